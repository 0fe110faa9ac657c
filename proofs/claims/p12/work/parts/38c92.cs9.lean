set_option maxRecDepth 4000 in
theorem s_X12_season {K : Nat} (a : Nat → Nat → Int32) (b : Nat → Nat → Int64) (v : Nat → Option Nat)  (hR : RC K a)  : f_call mtC 1 107 [.inr (.inr (some 0))] (cH a b v) (fun v9 h' => h' = cH a b v ∧ ∃ x : Int32, v9 = some (.inl x) ∧ (0 ≤ x.toInt ∧ x.toInt ≤ 3)) := by
  refine f_call_of (d0 := 0) rfl (Nat.le_of_ble_eq_true rfl) (fun d hd => ?_)
  show f_wp _ (0, [some (.inr (.inr (some 0)))], [], cH a b v) _
  have l4 : (4 : Int32).toInt = 4 := rfl
  refine w_aload rfl rfl ?_
  refine c_getR (t := some 70) rfl rfl rfl rfl rfl ?_
  refine c_getI rfl rfl rfl rfl ?_
  have q1 : 0 ≤ (a 70 7).toInt ∧ (a 70 7).toInt ≤ 100 * K ∧ (a 70 7).toInt ≤ 1000000 := RC.pas hR (by omega)
  refine w_const rfl ?_
  first | refine w_irem (c := 4) rfl rfl (by decide) (by omega) (fun x2 tx2 => ?_) | refine w_iidE rfl (by omega) (fun x2 tx2 => ?_)
  exact wp_iret (z := false) rfl (fun h9 => by cases h9) ⟨rfl, ⟨_, rfl, by omega⟩⟩
set_option maxRecDepth 4000 in
theorem s_X12_stir {K : Nat} (a : Nat → Nat → Int32) (b : Nat → Nat → Int64) (v : Nat → Option Nat) (g : Int64)  : f_call mtC 1 157 [.inr (.inl g)] (cH a b v) (fun v9 h' => h' = cH a b v ∧ ∃ x : Int64, v9 = some (.inr (.inl x)) ∧ True) := by
  refine f_call_of (d0 := 0) rfl (Nat.le_of_ble_eq_true rfl) (fun d hd => ?_)
  show f_wp _ (0, [some (.inr (.inl g)), none], [], cH a b v) _
  refine w_lload rfl rfl ?_
  refine w_const rfl ?_
  refine w_llE rfl (fun y1 ty1 => ?_)
  refine w_const rfl ?_
  refine w_llE rfl (fun y2 ty2 => ?_)
  refine w_const rfl ?_
  refine w_lldE rfl (by decide) (fun y3 ty3 => ?_)
  exact w_lret rfl ⟨rfl, ⟨_, rfl, trivial⟩⟩
set_option maxRecDepth 4000 in
theorem s_X12_drawn {K : Nat} (a : Nat → Nat → Int32) (b : Nat → Nat → Int64) (v : Nat → Option Nat) (g : Int64) (p : Int32)  : f_call mtC 1 158 [.inr (.inl g), .inl p] (cH a b v) (fun v9 h' => h' = cH a b v ∧ ∃ x : Int32, v9 = some (.inl x) ∧ True) := by
  refine f_call_of (d0 := 0) rfl (Nat.le_of_ble_eq_true rfl) (fun d hd => ?_)
  show f_wp _ (0, [some (.inr (.inl g)), none, some (.inl p)], [], cH a b v) _
  have l0 : (0 : Int32).toInt = 0 := rfl
  refine w_iload rfl rfl ?_
  refine w_if_le rfl (fun c1 => ?_) (fun c1 => ?_)
  · skip
    refine w_const rfl ?_
    exact wp_iret (z := false) rfl (fun h9 => by cases h9) ⟨rfl, ⟨_, rfl, trivial⟩⟩
  · skip
    refine w_lload rfl rfl ?_
    refine w_const rfl ?_
    refine w_lldE rfl (by decide) (fun y2 ty2 => ?_)
    refine w_iload rfl rfl ?_
    refine w_i2lE rfl (fun y3 ty3 => ?_)
    refine w_lldE rfl (fun z9 => by have z8 := i2l_ti ty3; rw [z9] at z8; have z7 : (0 : Int64).toInt = 0 := rfl; omega) (fun y4 ty4 => ?_)
    refine w_l2iE rfl (fun x5 tx5 => ?_)
    refine w_goto rfl ?_
    exact wp_iret (z := false) rfl (fun h9 => by cases h9) ⟨rfl, ⟨_, rfl, trivial⟩⟩
set_option maxRecDepth 4000 in
theorem s_X12_areAtRest {K : Nat} (a : Nat → Nat → Int32) (b : Nat → Nat → Int64) (v : Nat → Option Nat) (i : Int32) (j : Int32) (k : Int32)  : f_call mtC 1 152 [.inl i, .inl j, .inl k] (cH a b v) (fun v9 h' => h' = cH a b v ∧ ∃ x : Int32, v9 = some (.inl x) ∧ (x.toInt = 0 ∨ x.toInt = 1)) := by
  refine f_call_of (d0 := 0) rfl (Nat.le_of_ble_eq_true rfl) (fun d hd => ?_)
  show f_wp _ (0, [some (.inl i), some (.inl j), some (.inl k), none, none, none, none, none], [], cH a b v) _
  have l0 : (0 : Int32).toInt = 0 := rfl
  have l1 : (1 : Int32).toInt = 1 := rfl
  have l9 : (9 : Int32).toInt = 9 := rfl
  refine w_iload rfl rfl ?_
  refine w_iload rfl rfl ?_
  refine w_ic_lt rfl (fun c1 => ?_) (fun c1 => ?_)
  · skip
    refine w_const rfl ?_
    refine w_istore (lo' := [some (.inl i), some (.inl j), some (.inl k), some (.inl 0), none, none, none, none]) rfl rfl ?_
    refine w_iload rfl rfl ?_
    refine w_iload rfl rfl ?_
    refine w_ic_le rfl (fun c2 => ?_) (fun c2 => ?_)
    · skip
      refine w_const rfl ?_
      refine w_istore (lo' := [some (.inl i), some (.inl j), some (.inl k), some (.inl 0), some (.inl 0), none, none, none]) rfl rfl ?_
      refine w_const rfl ?_
      refine w_istore (lo' := [some (.inl i), some (.inl j), some (.inl k), some (.inl 0), some (.inl 0), some (.inl 0), none, none]) rfl rfl ?_
      have loop30 : ∀ (ms9 : Nat) (m : Int32) (o6_30 : Option f_V) (o7_30 : Option f_V), (10 - m.toInt).toNat = ms9 → (0 ≤ m.toInt ∧ m.toInt ≤ 10) → f_wp (f_code (t_X12_areAtRest (f_ev mtC d))) (30, [some (.inl i), some (.inl j), some (.inl k), some (.inl 0), some (.inl 0), some (.inl m), o6_30, o7_30], [], cH a b v) (fun v9 h' => h' = cH a b v ∧ ∃ x : Int32, v9 = some (.inl x) ∧ (x.toInt = 0 ∨ x.toInt = 1)) := by
        intro ms9
        induction ms9 using Nat.strongRecOn with
        | _ ms30 ih30 =>
          intro m o6_30 o7_30 hm30 hm
          refine w_iload rfl rfl ?_
          refine w_const rfl ?_
          refine w_ic_gt rfl (fun c3 => ?_) (fun c3 => ?_)
          · skip
            refine w_const rfl ?_
            exact wp_iret (z := true) rfl (fun _ => by first | exact Or.inl rfl | exact Or.inr rfl | (rcases (by omega : (1 : Int32).toInt = 0 ∨ (1 : Int32).toInt = 1) with h8 | h8; exact Or.inl (ti_eq h8); exact Or.inr (ti_eq h8))) ⟨rfl, ⟨_, rfl, by omega⟩⟩
          · skip
            refine w_iload rfl rfl ?_
            refine w_iload rfl rfl ?_
            refine w_ic_lt rfl (fun c4 => ?_) (fun c4 => ?_)
            · skip
              refine w_const rfl ?_
              refine w_istore (lo' := [some (.inl i), some (.inl j), some (.inl k), some (.inl 0), some (.inl 0), some (.inl m), some (.inl 0), o7_30]) rfl rfl ?_
              refine w_iload rfl rfl ?_
              refine w_iload rfl rfl ?_
              refine w_ic_le rfl (fun c5 => ?_) (fun c5 => ?_)
              · skip
                refine w_const rfl ?_
                refine w_istore (lo' := [some (.inl i), some (.inl j), some (.inl k), some (.inl 0), some (.inl 0), some (.inl m), some (.inl 0), some (.inl 0)]) rfl rfl ?_
                refine w_iload rfl rfl ?_
                refine w_iload rfl rfl ?_
                refine w_ic_gt rfl (fun c6 => ?_) (fun c6 => ?_)
                · exfalso; omega
                · skip
                  refine w_iload rfl rfl ?_
                  refine w_iload rfl rfl ?_
                  refine w_ic_le rfl (fun c7 => ?_) (fun c7 => ?_)
                  · skip
                    refine w_iinc (lo' := fun z9 => [some (.inl i), some (.inl j), some (.inl k), some (.inl 0), some (.inl 0), some (.inl z9), some (.inl 0), some (.inl 0)]) rfl rfl (fun _ => rfl) (by omega) (fun x8 tx8 => ?_)
                    refine w_goto rfl ?_
                    exact ih30 (10 - x8.toInt).toNat (by omega) x8 (some (.inl 0)) (some (.inl 0)) rfl  (by omega)
                  · exfalso; omega
              · skip
                refine w_iload rfl rfl ?_
                refine w_iload rfl rfl ?_
                first | refine w_isub rfl (by omega) (fun x9 tx9 => ?_) | refine w_iiU rfl (fun x9 tx9 => ?_)
                refine w_goto rfl ?_
                refine w_istore (lo' := [some (.inl i), some (.inl j), some (.inl k), some (.inl 0), some (.inl 0), some (.inl m), some (.inl 0), some (.inl x9)]) rfl rfl ?_
                refine w_iload rfl rfl ?_
                refine w_iload rfl rfl ?_
                refine w_ic_gt rfl (fun c10 => ?_) (fun c10 => ?_)
                · exfalso; omega
                · skip
                  refine w_iload rfl rfl ?_
                  refine w_iload rfl rfl ?_
                  refine w_ic_le rfl (fun c11 => ?_) (fun c11 => ?_)
                  · skip
                    refine w_iinc (lo' := fun z9 => [some (.inl i), some (.inl j), some (.inl k), some (.inl 0), some (.inl 0), some (.inl z9), some (.inl 0), some (.inl x9)]) rfl rfl (fun _ => rfl) (by omega) (fun x12 tx12 => ?_)
                    refine w_goto rfl ?_
                    exact ih30 (10 - x12.toInt).toNat (by omega) x12 (some (.inl 0)) (some (.inl x9)) rfl  (by omega)
                  · skip
                    refine w_const rfl ?_
                    exact wp_iret (z := true) rfl (fun _ => by first | exact Or.inl rfl | exact Or.inr rfl | (rcases (by omega : (0 : Int32).toInt = 0 ∨ (0 : Int32).toInt = 1) with h8 | h8; exact Or.inl (ti_eq h8); exact Or.inr (ti_eq h8))) ⟨rfl, ⟨_, rfl, by omega⟩⟩
            · skip
              refine w_iload rfl rfl ?_
              refine w_iload rfl rfl ?_
              first | refine w_isub rfl (by omega) (fun x13 tx13 => ?_) | refine w_iiU rfl (fun x13 tx13 => ?_)
              refine w_goto rfl ?_
              refine w_istore (lo' := [some (.inl i), some (.inl j), some (.inl k), some (.inl 0), some (.inl 0), some (.inl m), some (.inl x13), o7_30]) rfl rfl ?_
              refine w_iload rfl rfl ?_
              refine w_iload rfl rfl ?_
              refine w_ic_le rfl (fun c14 => ?_) (fun c14 => ?_)
              · skip
                refine w_const rfl ?_
                refine w_istore (lo' := [some (.inl i), some (.inl j), some (.inl k), some (.inl 0), some (.inl 0), some (.inl m), some (.inl x13), some (.inl 0)]) rfl rfl ?_
                refine w_iload rfl rfl ?_
                refine w_iload rfl rfl ?_
                refine w_ic_gt rfl (fun c15 => ?_) (fun c15 => ?_)
                · skip
                  refine w_const rfl ?_
                  exact wp_iret (z := true) rfl (fun _ => by first | exact Or.inl rfl | exact Or.inr rfl | (rcases (by omega : (0 : Int32).toInt = 0 ∨ (0 : Int32).toInt = 1) with h8 | h8; exact Or.inl (ti_eq h8); exact Or.inr (ti_eq h8))) ⟨rfl, ⟨_, rfl, by omega⟩⟩
                · skip
                  refine w_iload rfl rfl ?_
                  refine w_iload rfl rfl ?_
                  refine w_ic_le rfl (fun c16 => ?_) (fun c16 => ?_)
                  · skip
                    refine w_iinc (lo' := fun z9 => [some (.inl i), some (.inl j), some (.inl k), some (.inl 0), some (.inl 0), some (.inl z9), some (.inl x13), some (.inl 0)]) rfl rfl (fun _ => rfl) (by omega) (fun x17 tx17 => ?_)
                    refine w_goto rfl ?_
                    exact ih30 (10 - x17.toInt).toNat (by omega) x17 (some (.inl x13)) (some (.inl 0)) rfl  (by omega)
                  · exfalso; omega
              · skip
                refine w_iload rfl rfl ?_
                refine w_iload rfl rfl ?_
                first | refine w_isub rfl (by omega) (fun x18 tx18 => ?_) | refine w_iiU rfl (fun x18 tx18 => ?_)
                refine w_goto rfl ?_
                refine w_istore (lo' := [some (.inl i), some (.inl j), some (.inl k), some (.inl 0), some (.inl 0), some (.inl m), some (.inl x13), some (.inl x18)]) rfl rfl ?_
                refine w_iload rfl rfl ?_
                refine w_iload rfl rfl ?_
                refine w_ic_gt rfl (fun c19 => ?_) (fun c19 => ?_)
                · skip
                  refine w_const rfl ?_
                  exact wp_iret (z := true) rfl (fun _ => by first | exact Or.inl rfl | exact Or.inr rfl | (rcases (by omega : (0 : Int32).toInt = 0 ∨ (0 : Int32).toInt = 1) with h8 | h8; exact Or.inl (ti_eq h8); exact Or.inr (ti_eq h8))) ⟨rfl, ⟨_, rfl, by omega⟩⟩
                · skip
                  refine w_iload rfl rfl ?_
                  refine w_iload rfl rfl ?_
                  refine w_ic_le rfl (fun c20 => ?_) (fun c20 => ?_)
                  · skip
                    refine w_iinc (lo' := fun z9 => [some (.inl i), some (.inl j), some (.inl k), some (.inl 0), some (.inl 0), some (.inl z9), some (.inl x13), some (.inl x18)]) rfl rfl (fun _ => rfl) (by omega) (fun x21 tx21 => ?_)
                    refine w_goto rfl ?_
                    exact ih30 (10 - x21.toInt).toNat (by omega) x21 (some (.inl x13)) (some (.inl x18)) rfl  (by omega)
                  · skip
                    refine w_const rfl ?_
                    exact wp_iret (z := true) rfl (fun _ => by first | exact Or.inl rfl | exact Or.inr rfl | (rcases (by omega : (0 : Int32).toInt = 0 ∨ (0 : Int32).toInt = 1) with h8 | h8; exact Or.inl (ti_eq h8); exact Or.inr (ti_eq h8))) ⟨rfl, ⟨_, rfl, by omega⟩⟩
      exact loop30 _ 0 none none rfl  (by omega)
    · skip
      refine w_iload rfl rfl ?_
      refine w_iload rfl rfl ?_
      first | refine w_isub rfl (by omega) (fun x22 tx22 => ?_) | refine w_iiU rfl (fun x22 tx22 => ?_)
      refine w_goto rfl ?_
      refine w_istore (lo' := [some (.inl i), some (.inl j), some (.inl k), some (.inl 0), some (.inl x22), none, none, none]) rfl rfl ?_
      refine w_const rfl ?_
      refine w_istore (lo' := [some (.inl i), some (.inl j), some (.inl k), some (.inl 0), some (.inl x22), some (.inl 0), none, none]) rfl rfl ?_
      have loop30 : ∀ (ms9 : Nat) (m : Int32) (o6_30 : Option f_V) (o7_30 : Option f_V), (10 - m.toInt).toNat = ms9 → (0 ≤ m.toInt ∧ m.toInt ≤ 10) → f_wp (f_code (t_X12_areAtRest (f_ev mtC d))) (30, [some (.inl i), some (.inl j), some (.inl k), some (.inl 0), some (.inl x22), some (.inl m), o6_30, o7_30], [], cH a b v) (fun v9 h' => h' = cH a b v ∧ ∃ x : Int32, v9 = some (.inl x) ∧ (x.toInt = 0 ∨ x.toInt = 1)) := by
        intro ms9
        induction ms9 using Nat.strongRecOn with
        | _ ms30 ih30 =>
          intro m o6_30 o7_30 hm30 hm
          refine w_iload rfl rfl ?_
          refine w_const rfl ?_
          refine w_ic_gt rfl (fun c23 => ?_) (fun c23 => ?_)
          · skip
            refine w_const rfl ?_
            exact wp_iret (z := true) rfl (fun _ => by first | exact Or.inl rfl | exact Or.inr rfl | (rcases (by omega : (1 : Int32).toInt = 0 ∨ (1 : Int32).toInt = 1) with h8 | h8; exact Or.inl (ti_eq h8); exact Or.inr (ti_eq h8))) ⟨rfl, ⟨_, rfl, by omega⟩⟩
          · skip
            refine w_iload rfl rfl ?_
            refine w_iload rfl rfl ?_
            refine w_ic_lt rfl (fun c24 => ?_) (fun c24 => ?_)
            · skip
              refine w_const rfl ?_
              refine w_istore (lo' := [some (.inl i), some (.inl j), some (.inl k), some (.inl 0), some (.inl x22), some (.inl m), some (.inl 0), o7_30]) rfl rfl ?_
              refine w_iload rfl rfl ?_
              refine w_iload rfl rfl ?_
              refine w_ic_le rfl (fun c25 => ?_) (fun c25 => ?_)
              · skip
                refine w_const rfl ?_
                refine w_istore (lo' := [some (.inl i), some (.inl j), some (.inl k), some (.inl 0), some (.inl x22), some (.inl m), some (.inl 0), some (.inl 0)]) rfl rfl ?_
                refine w_iload rfl rfl ?_
                refine w_iload rfl rfl ?_
                refine w_ic_gt rfl (fun c26 => ?_) (fun c26 => ?_)
                · exfalso; omega
                · skip
                  refine w_iload rfl rfl ?_
                  refine w_iload rfl rfl ?_
                  refine w_ic_le rfl (fun c27 => ?_) (fun c27 => ?_)
                  · skip
                    refine w_iinc (lo' := fun z9 => [some (.inl i), some (.inl j), some (.inl k), some (.inl 0), some (.inl x22), some (.inl z9), some (.inl 0), some (.inl 0)]) rfl rfl (fun _ => rfl) (by omega) (fun x28 tx28 => ?_)
                    refine w_goto rfl ?_
                    exact ih30 (10 - x28.toInt).toNat (by omega) x28 (some (.inl 0)) (some (.inl 0)) rfl  (by omega)
                  · skip
                    refine w_const rfl ?_
                    exact wp_iret (z := true) rfl (fun _ => by first | exact Or.inl rfl | exact Or.inr rfl | (rcases (by omega : (0 : Int32).toInt = 0 ∨ (0 : Int32).toInt = 1) with h8 | h8; exact Or.inl (ti_eq h8); exact Or.inr (ti_eq h8))) ⟨rfl, ⟨_, rfl, by omega⟩⟩
              · skip
                refine w_iload rfl rfl ?_
                refine w_iload rfl rfl ?_
                first | refine w_isub rfl (by omega) (fun x29 tx29 => ?_) | refine w_iiU rfl (fun x29 tx29 => ?_)
                refine w_goto rfl ?_
                refine w_istore (lo' := [some (.inl i), some (.inl j), some (.inl k), some (.inl 0), some (.inl x22), some (.inl m), some (.inl 0), some (.inl x29)]) rfl rfl ?_
                refine w_iload rfl rfl ?_
                refine w_iload rfl rfl ?_
                refine w_ic_gt rfl (fun c30 => ?_) (fun c30 => ?_)
                · exfalso; omega
                · skip
                  refine w_iload rfl rfl ?_
                  refine w_iload rfl rfl ?_
                  refine w_ic_le rfl (fun c31 => ?_) (fun c31 => ?_)
                  · skip
                    refine w_iinc (lo' := fun z9 => [some (.inl i), some (.inl j), some (.inl k), some (.inl 0), some (.inl x22), some (.inl z9), some (.inl 0), some (.inl x29)]) rfl rfl (fun _ => rfl) (by omega) (fun x32 tx32 => ?_)
                    refine w_goto rfl ?_
                    exact ih30 (10 - x32.toInt).toNat (by omega) x32 (some (.inl 0)) (some (.inl x29)) rfl  (by omega)
                  · skip
                    refine w_const rfl ?_
                    exact wp_iret (z := true) rfl (fun _ => by first | exact Or.inl rfl | exact Or.inr rfl | (rcases (by omega : (0 : Int32).toInt = 0 ∨ (0 : Int32).toInt = 1) with h8 | h8; exact Or.inl (ti_eq h8); exact Or.inr (ti_eq h8))) ⟨rfl, ⟨_, rfl, by omega⟩⟩
            · skip
              refine w_iload rfl rfl ?_
              refine w_iload rfl rfl ?_
              first | refine w_isub rfl (by omega) (fun x33 tx33 => ?_) | refine w_iiU rfl (fun x33 tx33 => ?_)
              refine w_goto rfl ?_
              refine w_istore (lo' := [some (.inl i), some (.inl j), some (.inl k), some (.inl 0), some (.inl x22), some (.inl m), some (.inl x33), o7_30]) rfl rfl ?_
              refine w_iload rfl rfl ?_
              refine w_iload rfl rfl ?_
              refine w_ic_le rfl (fun c34 => ?_) (fun c34 => ?_)
              · skip
                refine w_const rfl ?_
                refine w_istore (lo' := [some (.inl i), some (.inl j), some (.inl k), some (.inl 0), some (.inl x22), some (.inl m), some (.inl x33), some (.inl 0)]) rfl rfl ?_
                refine w_iload rfl rfl ?_
                refine w_iload rfl rfl ?_
                refine w_ic_gt rfl (fun c35 => ?_) (fun c35 => ?_)
                · skip
                  refine w_const rfl ?_
                  exact wp_iret (z := true) rfl (fun _ => by first | exact Or.inl rfl | exact Or.inr rfl | (rcases (by omega : (0 : Int32).toInt = 0 ∨ (0 : Int32).toInt = 1) with h8 | h8; exact Or.inl (ti_eq h8); exact Or.inr (ti_eq h8))) ⟨rfl, ⟨_, rfl, by omega⟩⟩
                · skip
                  refine w_iload rfl rfl ?_
                  refine w_iload rfl rfl ?_
                  refine w_ic_le rfl (fun c36 => ?_) (fun c36 => ?_)
                  · skip
                    refine w_iinc (lo' := fun z9 => [some (.inl i), some (.inl j), some (.inl k), some (.inl 0), some (.inl x22), some (.inl z9), some (.inl x33), some (.inl 0)]) rfl rfl (fun _ => rfl) (by omega) (fun x37 tx37 => ?_)
                    refine w_goto rfl ?_
                    exact ih30 (10 - x37.toInt).toNat (by omega) x37 (some (.inl x33)) (some (.inl 0)) rfl  (by omega)
                  · skip
                    refine w_const rfl ?_
                    exact wp_iret (z := true) rfl (fun _ => by first | exact Or.inl rfl | exact Or.inr rfl | (rcases (by omega : (0 : Int32).toInt = 0 ∨ (0 : Int32).toInt = 1) with h8 | h8; exact Or.inl (ti_eq h8); exact Or.inr (ti_eq h8))) ⟨rfl, ⟨_, rfl, by omega⟩⟩
              · skip
                refine w_iload rfl rfl ?_
                refine w_iload rfl rfl ?_
                first | refine w_isub rfl (by omega) (fun x38 tx38 => ?_) | refine w_iiU rfl (fun x38 tx38 => ?_)
                refine w_goto rfl ?_
                refine w_istore (lo' := [some (.inl i), some (.inl j), some (.inl k), some (.inl 0), some (.inl x22), some (.inl m), some (.inl x33), some (.inl x38)]) rfl rfl ?_
                refine w_iload rfl rfl ?_
                refine w_iload rfl rfl ?_
                refine w_ic_gt rfl (fun c39 => ?_) (fun c39 => ?_)
                · skip
                  refine w_const rfl ?_
                  exact wp_iret (z := true) rfl (fun _ => by first | exact Or.inl rfl | exact Or.inr rfl | (rcases (by omega : (0 : Int32).toInt = 0 ∨ (0 : Int32).toInt = 1) with h8 | h8; exact Or.inl (ti_eq h8); exact Or.inr (ti_eq h8))) ⟨rfl, ⟨_, rfl, by omega⟩⟩
                · skip
                  refine w_iload rfl rfl ?_
                  refine w_iload rfl rfl ?_
                  refine w_ic_le rfl (fun c40 => ?_) (fun c40 => ?_)
                  · skip
                    refine w_iinc (lo' := fun z9 => [some (.inl i), some (.inl j), some (.inl k), some (.inl 0), some (.inl x22), some (.inl z9), some (.inl x33), some (.inl x38)]) rfl rfl (fun _ => rfl) (by omega) (fun x41 tx41 => ?_)
                    refine w_goto rfl ?_
                    exact ih30 (10 - x41.toInt).toNat (by omega) x41 (some (.inl x33)) (some (.inl x38)) rfl  (by omega)
                  · skip
                    refine w_const rfl ?_
                    exact wp_iret (z := true) rfl (fun _ => by first | exact Or.inl rfl | exact Or.inr rfl | (rcases (by omega : (0 : Int32).toInt = 0 ∨ (0 : Int32).toInt = 1) with h8 | h8; exact Or.inl (ti_eq h8); exact Or.inr (ti_eq h8))) ⟨rfl, ⟨_, rfl, by omega⟩⟩
      exact loop30 _ 0 none none rfl  (by omega)
  · skip
    refine w_iload rfl rfl ?_
    refine w_iload rfl rfl ?_
    first | refine w_isub rfl (by omega) (fun x42 tx42 => ?_) | refine w_iiU rfl (fun x42 tx42 => ?_)
    refine w_goto rfl ?_
    refine w_istore (lo' := [some (.inl i), some (.inl j), some (.inl k), some (.inl x42), none, none, none, none]) rfl rfl ?_
    refine w_iload rfl rfl ?_
    refine w_iload rfl rfl ?_
    refine w_ic_le rfl (fun c43 => ?_) (fun c43 => ?_)
    · skip
      refine w_const rfl ?_
      refine w_istore (lo' := [some (.inl i), some (.inl j), some (.inl k), some (.inl x42), some (.inl 0), none, none, none]) rfl rfl ?_
      refine w_const rfl ?_
      refine w_istore (lo' := [some (.inl i), some (.inl j), some (.inl k), some (.inl x42), some (.inl 0), some (.inl 0), none, none]) rfl rfl ?_
      have loop30 : ∀ (ms9 : Nat) (m : Int32) (o6_30 : Option f_V) (o7_30 : Option f_V), (10 - m.toInt).toNat = ms9 → (0 ≤ m.toInt ∧ m.toInt ≤ 10) → f_wp (f_code (t_X12_areAtRest (f_ev mtC d))) (30, [some (.inl i), some (.inl j), some (.inl k), some (.inl x42), some (.inl 0), some (.inl m), o6_30, o7_30], [], cH a b v) (fun v9 h' => h' = cH a b v ∧ ∃ x : Int32, v9 = some (.inl x) ∧ (x.toInt = 0 ∨ x.toInt = 1)) := by
        intro ms9
        induction ms9 using Nat.strongRecOn with
        | _ ms30 ih30 =>
          intro m o6_30 o7_30 hm30 hm
          refine w_iload rfl rfl ?_
          refine w_const rfl ?_
          refine w_ic_gt rfl (fun c44 => ?_) (fun c44 => ?_)
          · skip
            refine w_const rfl ?_
            exact wp_iret (z := true) rfl (fun _ => by first | exact Or.inl rfl | exact Or.inr rfl | (rcases (by omega : (1 : Int32).toInt = 0 ∨ (1 : Int32).toInt = 1) with h8 | h8; exact Or.inl (ti_eq h8); exact Or.inr (ti_eq h8))) ⟨rfl, ⟨_, rfl, by omega⟩⟩
          · skip
            refine w_iload rfl rfl ?_
            refine w_iload rfl rfl ?_
            refine w_ic_lt rfl (fun c45 => ?_) (fun c45 => ?_)
            · skip
              refine w_const rfl ?_
              refine w_istore (lo' := [some (.inl i), some (.inl j), some (.inl k), some (.inl x42), some (.inl 0), some (.inl m), some (.inl 0), o7_30]) rfl rfl ?_
              refine w_iload rfl rfl ?_
              refine w_iload rfl rfl ?_
              refine w_ic_le rfl (fun c46 => ?_) (fun c46 => ?_)
              · skip
                refine w_const rfl ?_
                refine w_istore (lo' := [some (.inl i), some (.inl j), some (.inl k), some (.inl x42), some (.inl 0), some (.inl m), some (.inl 0), some (.inl 0)]) rfl rfl ?_
                refine w_iload rfl rfl ?_
                refine w_iload rfl rfl ?_
                refine w_ic_gt rfl (fun c47 => ?_) (fun c47 => ?_)
                · skip
                  refine w_const rfl ?_
                  exact wp_iret (z := true) rfl (fun _ => by first | exact Or.inl rfl | exact Or.inr rfl | (rcases (by omega : (0 : Int32).toInt = 0 ∨ (0 : Int32).toInt = 1) with h8 | h8; exact Or.inl (ti_eq h8); exact Or.inr (ti_eq h8))) ⟨rfl, ⟨_, rfl, by omega⟩⟩
                · skip
                  refine w_iload rfl rfl ?_
                  refine w_iload rfl rfl ?_
                  refine w_ic_le rfl (fun c48 => ?_) (fun c48 => ?_)
                  · skip
                    refine w_iinc (lo' := fun z9 => [some (.inl i), some (.inl j), some (.inl k), some (.inl x42), some (.inl 0), some (.inl z9), some (.inl 0), some (.inl 0)]) rfl rfl (fun _ => rfl) (by omega) (fun x49 tx49 => ?_)
                    refine w_goto rfl ?_
                    exact ih30 (10 - x49.toInt).toNat (by omega) x49 (some (.inl 0)) (some (.inl 0)) rfl  (by omega)
                  · exfalso; omega
              · skip
                refine w_iload rfl rfl ?_
                refine w_iload rfl rfl ?_
                first | refine w_isub rfl (by omega) (fun x50 tx50 => ?_) | refine w_iiU rfl (fun x50 tx50 => ?_)
                refine w_goto rfl ?_
                refine w_istore (lo' := [some (.inl i), some (.inl j), some (.inl k), some (.inl x42), some (.inl 0), some (.inl m), some (.inl 0), some (.inl x50)]) rfl rfl ?_
                refine w_iload rfl rfl ?_
                refine w_iload rfl rfl ?_
                refine w_ic_gt rfl (fun c51 => ?_) (fun c51 => ?_)
                · skip
                  refine w_const rfl ?_
                  exact wp_iret (z := true) rfl (fun _ => by first | exact Or.inl rfl | exact Or.inr rfl | (rcases (by omega : (0 : Int32).toInt = 0 ∨ (0 : Int32).toInt = 1) with h8 | h8; exact Or.inl (ti_eq h8); exact Or.inr (ti_eq h8))) ⟨rfl, ⟨_, rfl, by omega⟩⟩
                · skip
                  refine w_iload rfl rfl ?_
                  refine w_iload rfl rfl ?_
                  refine w_ic_le rfl (fun c52 => ?_) (fun c52 => ?_)
                  · skip
                    refine w_iinc (lo' := fun z9 => [some (.inl i), some (.inl j), some (.inl k), some (.inl x42), some (.inl 0), some (.inl z9), some (.inl 0), some (.inl x50)]) rfl rfl (fun _ => rfl) (by omega) (fun x53 tx53 => ?_)
                    refine w_goto rfl ?_
                    exact ih30 (10 - x53.toInt).toNat (by omega) x53 (some (.inl 0)) (some (.inl x50)) rfl  (by omega)
                  · skip
                    refine w_const rfl ?_
                    exact wp_iret (z := true) rfl (fun _ => by first | exact Or.inl rfl | exact Or.inr rfl | (rcases (by omega : (0 : Int32).toInt = 0 ∨ (0 : Int32).toInt = 1) with h8 | h8; exact Or.inl (ti_eq h8); exact Or.inr (ti_eq h8))) ⟨rfl, ⟨_, rfl, by omega⟩⟩
            · skip
              refine w_iload rfl rfl ?_
              refine w_iload rfl rfl ?_
              first | refine w_isub rfl (by omega) (fun x54 tx54 => ?_) | refine w_iiU rfl (fun x54 tx54 => ?_)
              refine w_goto rfl ?_
              refine w_istore (lo' := [some (.inl i), some (.inl j), some (.inl k), some (.inl x42), some (.inl 0), some (.inl m), some (.inl x54), o7_30]) rfl rfl ?_
              refine w_iload rfl rfl ?_
              refine w_iload rfl rfl ?_
              refine w_ic_le rfl (fun c55 => ?_) (fun c55 => ?_)
              · skip
                refine w_const rfl ?_
                refine w_istore (lo' := [some (.inl i), some (.inl j), some (.inl k), some (.inl x42), some (.inl 0), some (.inl m), some (.inl x54), some (.inl 0)]) rfl rfl ?_
                refine w_iload rfl rfl ?_
                refine w_iload rfl rfl ?_
                refine w_ic_gt rfl (fun c56 => ?_) (fun c56 => ?_)
                · skip
                  refine w_const rfl ?_
                  exact wp_iret (z := true) rfl (fun _ => by first | exact Or.inl rfl | exact Or.inr rfl | (rcases (by omega : (0 : Int32).toInt = 0 ∨ (0 : Int32).toInt = 1) with h8 | h8; exact Or.inl (ti_eq h8); exact Or.inr (ti_eq h8))) ⟨rfl, ⟨_, rfl, by omega⟩⟩
                · skip
                  refine w_iload rfl rfl ?_
                  refine w_iload rfl rfl ?_
                  refine w_ic_le rfl (fun c57 => ?_) (fun c57 => ?_)
                  · skip
                    refine w_iinc (lo' := fun z9 => [some (.inl i), some (.inl j), some (.inl k), some (.inl x42), some (.inl 0), some (.inl z9), some (.inl x54), some (.inl 0)]) rfl rfl (fun _ => rfl) (by omega) (fun x58 tx58 => ?_)
                    refine w_goto rfl ?_
                    exact ih30 (10 - x58.toInt).toNat (by omega) x58 (some (.inl x54)) (some (.inl 0)) rfl  (by omega)
                  · exfalso; omega
              · skip
                refine w_iload rfl rfl ?_
                refine w_iload rfl rfl ?_
                first | refine w_isub rfl (by omega) (fun x59 tx59 => ?_) | refine w_iiU rfl (fun x59 tx59 => ?_)
                refine w_goto rfl ?_
                refine w_istore (lo' := [some (.inl i), some (.inl j), some (.inl k), some (.inl x42), some (.inl 0), some (.inl m), some (.inl x54), some (.inl x59)]) rfl rfl ?_
                refine w_iload rfl rfl ?_
                refine w_iload rfl rfl ?_
                refine w_ic_gt rfl (fun c60 => ?_) (fun c60 => ?_)
                · skip
                  refine w_const rfl ?_
                  exact wp_iret (z := true) rfl (fun _ => by first | exact Or.inl rfl | exact Or.inr rfl | (rcases (by omega : (0 : Int32).toInt = 0 ∨ (0 : Int32).toInt = 1) with h8 | h8; exact Or.inl (ti_eq h8); exact Or.inr (ti_eq h8))) ⟨rfl, ⟨_, rfl, by omega⟩⟩
                · skip
                  refine w_iload rfl rfl ?_
                  refine w_iload rfl rfl ?_
                  refine w_ic_le rfl (fun c61 => ?_) (fun c61 => ?_)
                  · skip
                    refine w_iinc (lo' := fun z9 => [some (.inl i), some (.inl j), some (.inl k), some (.inl x42), some (.inl 0), some (.inl z9), some (.inl x54), some (.inl x59)]) rfl rfl (fun _ => rfl) (by omega) (fun x62 tx62 => ?_)
                    refine w_goto rfl ?_
                    exact ih30 (10 - x62.toInt).toNat (by omega) x62 (some (.inl x54)) (some (.inl x59)) rfl  (by omega)
                  · skip
                    refine w_const rfl ?_
                    exact wp_iret (z := true) rfl (fun _ => by first | exact Or.inl rfl | exact Or.inr rfl | (rcases (by omega : (0 : Int32).toInt = 0 ∨ (0 : Int32).toInt = 1) with h8 | h8; exact Or.inl (ti_eq h8); exact Or.inr (ti_eq h8))) ⟨rfl, ⟨_, rfl, by omega⟩⟩
      exact loop30 _ 0 none none rfl  (by omega)
    · skip
      refine w_iload rfl rfl ?_
      refine w_iload rfl rfl ?_
      first | refine w_isub rfl (by omega) (fun x63 tx63 => ?_) | refine w_iiU rfl (fun x63 tx63 => ?_)
      refine w_goto rfl ?_
      refine w_istore (lo' := [some (.inl i), some (.inl j), some (.inl k), some (.inl x42), some (.inl x63), none, none, none]) rfl rfl ?_
      refine w_const rfl ?_
      refine w_istore (lo' := [some (.inl i), some (.inl j), some (.inl k), some (.inl x42), some (.inl x63), some (.inl 0), none, none]) rfl rfl ?_
      have loop30 : ∀ (ms9 : Nat) (m : Int32) (o6_30 : Option f_V) (o7_30 : Option f_V), (10 - m.toInt).toNat = ms9 → (0 ≤ m.toInt ∧ m.toInt ≤ 10) → f_wp (f_code (t_X12_areAtRest (f_ev mtC d))) (30, [some (.inl i), some (.inl j), some (.inl k), some (.inl x42), some (.inl x63), some (.inl m), o6_30, o7_30], [], cH a b v) (fun v9 h' => h' = cH a b v ∧ ∃ x : Int32, v9 = some (.inl x) ∧ (x.toInt = 0 ∨ x.toInt = 1)) := by
        intro ms9
        induction ms9 using Nat.strongRecOn with
        | _ ms30 ih30 =>
          intro m o6_30 o7_30 hm30 hm
          refine w_iload rfl rfl ?_
          refine w_const rfl ?_
          refine w_ic_gt rfl (fun c64 => ?_) (fun c64 => ?_)
          · skip
            refine w_const rfl ?_
            exact wp_iret (z := true) rfl (fun _ => by first | exact Or.inl rfl | exact Or.inr rfl | (rcases (by omega : (1 : Int32).toInt = 0 ∨ (1 : Int32).toInt = 1) with h8 | h8; exact Or.inl (ti_eq h8); exact Or.inr (ti_eq h8))) ⟨rfl, ⟨_, rfl, by omega⟩⟩
          · skip
            refine w_iload rfl rfl ?_
            refine w_iload rfl rfl ?_
            refine w_ic_lt rfl (fun c65 => ?_) (fun c65 => ?_)
            · skip
              refine w_const rfl ?_
              refine w_istore (lo' := [some (.inl i), some (.inl j), some (.inl k), some (.inl x42), some (.inl x63), some (.inl m), some (.inl 0), o7_30]) rfl rfl ?_
              refine w_iload rfl rfl ?_
              refine w_iload rfl rfl ?_
              refine w_ic_le rfl (fun c66 => ?_) (fun c66 => ?_)
              · skip
                refine w_const rfl ?_
                refine w_istore (lo' := [some (.inl i), some (.inl j), some (.inl k), some (.inl x42), some (.inl x63), some (.inl m), some (.inl 0), some (.inl 0)]) rfl rfl ?_
                refine w_iload rfl rfl ?_
                refine w_iload rfl rfl ?_
                refine w_ic_gt rfl (fun c67 => ?_) (fun c67 => ?_)
                · skip
                  refine w_const rfl ?_
                  exact wp_iret (z := true) rfl (fun _ => by first | exact Or.inl rfl | exact Or.inr rfl | (rcases (by omega : (0 : Int32).toInt = 0 ∨ (0 : Int32).toInt = 1) with h8 | h8; exact Or.inl (ti_eq h8); exact Or.inr (ti_eq h8))) ⟨rfl, ⟨_, rfl, by omega⟩⟩
                · skip
                  refine w_iload rfl rfl ?_
                  refine w_iload rfl rfl ?_
                  refine w_ic_le rfl (fun c68 => ?_) (fun c68 => ?_)
                  · skip
                    refine w_iinc (lo' := fun z9 => [some (.inl i), some (.inl j), some (.inl k), some (.inl x42), some (.inl x63), some (.inl z9), some (.inl 0), some (.inl 0)]) rfl rfl (fun _ => rfl) (by omega) (fun x69 tx69 => ?_)
                    refine w_goto rfl ?_
                    exact ih30 (10 - x69.toInt).toNat (by omega) x69 (some (.inl 0)) (some (.inl 0)) rfl  (by omega)
                  · skip
                    refine w_const rfl ?_
                    exact wp_iret (z := true) rfl (fun _ => by first | exact Or.inl rfl | exact Or.inr rfl | (rcases (by omega : (0 : Int32).toInt = 0 ∨ (0 : Int32).toInt = 1) with h8 | h8; exact Or.inl (ti_eq h8); exact Or.inr (ti_eq h8))) ⟨rfl, ⟨_, rfl, by omega⟩⟩
              · skip
                refine w_iload rfl rfl ?_
                refine w_iload rfl rfl ?_
                first | refine w_isub rfl (by omega) (fun x70 tx70 => ?_) | refine w_iiU rfl (fun x70 tx70 => ?_)
                refine w_goto rfl ?_
                refine w_istore (lo' := [some (.inl i), some (.inl j), some (.inl k), some (.inl x42), some (.inl x63), some (.inl m), some (.inl 0), some (.inl x70)]) rfl rfl ?_
                refine w_iload rfl rfl ?_
                refine w_iload rfl rfl ?_
                refine w_ic_gt rfl (fun c71 => ?_) (fun c71 => ?_)
                · skip
                  refine w_const rfl ?_
                  exact wp_iret (z := true) rfl (fun _ => by first | exact Or.inl rfl | exact Or.inr rfl | (rcases (by omega : (0 : Int32).toInt = 0 ∨ (0 : Int32).toInt = 1) with h8 | h8; exact Or.inl (ti_eq h8); exact Or.inr (ti_eq h8))) ⟨rfl, ⟨_, rfl, by omega⟩⟩
                · skip
                  refine w_iload rfl rfl ?_
                  refine w_iload rfl rfl ?_
                  refine w_ic_le rfl (fun c72 => ?_) (fun c72 => ?_)
                  · skip
                    refine w_iinc (lo' := fun z9 => [some (.inl i), some (.inl j), some (.inl k), some (.inl x42), some (.inl x63), some (.inl z9), some (.inl 0), some (.inl x70)]) rfl rfl (fun _ => rfl) (by omega) (fun x73 tx73 => ?_)
                    refine w_goto rfl ?_
                    exact ih30 (10 - x73.toInt).toNat (by omega) x73 (some (.inl 0)) (some (.inl x70)) rfl  (by omega)
                  · skip
                    refine w_const rfl ?_
                    exact wp_iret (z := true) rfl (fun _ => by first | exact Or.inl rfl | exact Or.inr rfl | (rcases (by omega : (0 : Int32).toInt = 0 ∨ (0 : Int32).toInt = 1) with h8 | h8; exact Or.inl (ti_eq h8); exact Or.inr (ti_eq h8))) ⟨rfl, ⟨_, rfl, by omega⟩⟩
            · skip
              refine w_iload rfl rfl ?_
              refine w_iload rfl rfl ?_
              first | refine w_isub rfl (by omega) (fun x74 tx74 => ?_) | refine w_iiU rfl (fun x74 tx74 => ?_)
              refine w_goto rfl ?_
              refine w_istore (lo' := [some (.inl i), some (.inl j), some (.inl k), some (.inl x42), some (.inl x63), some (.inl m), some (.inl x74), o7_30]) rfl rfl ?_
              refine w_iload rfl rfl ?_
              refine w_iload rfl rfl ?_
              refine w_ic_le rfl (fun c75 => ?_) (fun c75 => ?_)
              · skip
                refine w_const rfl ?_
                refine w_istore (lo' := [some (.inl i), some (.inl j), some (.inl k), some (.inl x42), some (.inl x63), some (.inl m), some (.inl x74), some (.inl 0)]) rfl rfl ?_
                refine w_iload rfl rfl ?_
                refine w_iload rfl rfl ?_
                refine w_ic_gt rfl (fun c76 => ?_) (fun c76 => ?_)
                · skip
                  refine w_const rfl ?_
                  exact wp_iret (z := true) rfl (fun _ => by first | exact Or.inl rfl | exact Or.inr rfl | (rcases (by omega : (0 : Int32).toInt = 0 ∨ (0 : Int32).toInt = 1) with h8 | h8; exact Or.inl (ti_eq h8); exact Or.inr (ti_eq h8))) ⟨rfl, ⟨_, rfl, by omega⟩⟩
                · skip
                  refine w_iload rfl rfl ?_
                  refine w_iload rfl rfl ?_
                  refine w_ic_le rfl (fun c77 => ?_) (fun c77 => ?_)
                  · skip
                    refine w_iinc (lo' := fun z9 => [some (.inl i), some (.inl j), some (.inl k), some (.inl x42), some (.inl x63), some (.inl z9), some (.inl x74), some (.inl 0)]) rfl rfl (fun _ => rfl) (by omega) (fun x78 tx78 => ?_)
                    refine w_goto rfl ?_
                    exact ih30 (10 - x78.toInt).toNat (by omega) x78 (some (.inl x74)) (some (.inl 0)) rfl  (by omega)
                  · skip
                    refine w_const rfl ?_
                    exact wp_iret (z := true) rfl (fun _ => by first | exact Or.inl rfl | exact Or.inr rfl | (rcases (by omega : (0 : Int32).toInt = 0 ∨ (0 : Int32).toInt = 1) with h8 | h8; exact Or.inl (ti_eq h8); exact Or.inr (ti_eq h8))) ⟨rfl, ⟨_, rfl, by omega⟩⟩
              · skip
                refine w_iload rfl rfl ?_
                refine w_iload rfl rfl ?_
                first | refine w_isub rfl (by omega) (fun x79 tx79 => ?_) | refine w_iiU rfl (fun x79 tx79 => ?_)
                refine w_goto rfl ?_
                refine w_istore (lo' := [some (.inl i), some (.inl j), some (.inl k), some (.inl x42), some (.inl x63), some (.inl m), some (.inl x74), some (.inl x79)]) rfl rfl ?_
                refine w_iload rfl rfl ?_
                refine w_iload rfl rfl ?_
                refine w_ic_gt rfl (fun c80 => ?_) (fun c80 => ?_)
                · skip
                  refine w_const rfl ?_
                  exact wp_iret (z := true) rfl (fun _ => by first | exact Or.inl rfl | exact Or.inr rfl | (rcases (by omega : (0 : Int32).toInt = 0 ∨ (0 : Int32).toInt = 1) with h8 | h8; exact Or.inl (ti_eq h8); exact Or.inr (ti_eq h8))) ⟨rfl, ⟨_, rfl, by omega⟩⟩
                · skip
                  refine w_iload rfl rfl ?_
                  refine w_iload rfl rfl ?_
                  refine w_ic_le rfl (fun c81 => ?_) (fun c81 => ?_)
                  · skip
                    refine w_iinc (lo' := fun z9 => [some (.inl i), some (.inl j), some (.inl k), some (.inl x42), some (.inl x63), some (.inl z9), some (.inl x74), some (.inl x79)]) rfl rfl (fun _ => rfl) (by omega) (fun x82 tx82 => ?_)
                    refine w_goto rfl ?_
                    exact ih30 (10 - x82.toInt).toNat (by omega) x82 (some (.inl x74)) (some (.inl x79)) rfl  (by omega)
                  · skip
                    refine w_const rfl ?_
                    exact wp_iret (z := true) rfl (fun _ => by first | exact Or.inl rfl | exact Or.inr rfl | (rcases (by omega : (0 : Int32).toInt = 0 ∨ (0 : Int32).toInt = 1) with h8 | h8; exact Or.inl (ti_eq h8); exact Or.inr (ti_eq h8))) ⟨rfl, ⟨_, rfl, by omega⟩⟩
      exact loop30 _ 0 none none rfl  (by omega)
set_option maxRecDepth 4000 in
theorem s_X12_winningTake {K : Nat} (a : Nat → Nat → Int32) (b : Nat → Nat → Int64) (v : Nat → Option Nat) (i : Int32) (j : Int32)  : f_call mtC 1 154 [.inl i, .inl j] (cH a b v) (fun v9 h' => h' = cH a b v ∧ ∃ x : Int32, v9 = some (.inl x) ∧ True) := by
  refine f_call_of (d0 := 0) rfl (Nat.le_of_ble_eq_true rfl) (fun d hd => ?_)
  show f_wp _ (0, [some (.inl i), some (.inl j), none], [], cH a b v) _
  have lm1 : (-1 : Int32).toInt = -1 := rfl
  have l1 : (1 : Int32).toInt = 1 := rfl
  have l3 : (3 : Int32).toInt = 3 := rfl
  have l4 : (4 : Int32).toInt = 4 := rfl
  refine w_const rfl ?_
  refine w_istore (lo' := [some (.inl i), some (.inl j), some (.inl 1)]) rfl rfl ?_
  have loop2 : ∀ (ms9 : Nat) (m : Int32) , (4 - m.toInt).toNat = ms9 → (1 ≤ m.toInt ∧ m.toInt ≤ 4) → f_wp (f_code (t_X12_winningTake (f_ev mtC d))) (2, [some (.inl i), some (.inl j), some (.inl m)], [], cH a b v) (fun v9 h' => h' = cH a b v ∧ ∃ x : Int32, v9 = some (.inl x) ∧ True) := by
    intro ms9
    induction ms9 using Nat.strongRecOn with
    | _ ms2 ih2 =>
      intro m  hm2 hm
      refine w_iload rfl rfl ?_
      refine w_const rfl ?_
      refine w_ic_gt rfl (fun c1 => ?_) (fun c1 => ?_)
      · skip
        refine w_const rfl ?_
        refine w_istore (lo' := [some (.inl i), some (.inl j), some (.inl 1)]) rfl rfl ?_
        have loop33 : ∀ (ms9 : Nat) (m : Int32) , (4 - m.toInt).toNat = ms9 → (1 ≤ m.toInt ∧ m.toInt ≤ 4) → f_wp (f_code (t_X12_winningTake (f_ev mtC d))) (33, [some (.inl i), some (.inl j), some (.inl m)], [], cH a b v) (fun v9 h' => h' = cH a b v ∧ ∃ x : Int32, v9 = some (.inl x) ∧ True) := by
          intro ms9
          induction ms9 using Nat.strongRecOn with
          | _ ms33 ih33 =>
            intro m  hm33 hm
            refine w_iload rfl rfl ?_
            refine w_const rfl ?_
            refine w_ic_gt rfl (fun c2 => ?_) (fun c2 => ?_)
            · skip
              refine w_const rfl ?_
              exact wp_iret (z := false) rfl (fun h9 => by cases h9) ⟨rfl, ⟨_, rfl, trivial⟩⟩
            · skip
              refine w_iload rfl rfl ?_
              refine w_iload rfl rfl ?_
              refine w_ic_gt rfl (fun c3 => ?_) (fun c3 => ?_)
              · skip
                refine w_iinc (lo' := fun z9 => [some (.inl i), some (.inl j), some (.inl z9)]) rfl rfl (fun _ => rfl) (by omega) (fun x4 tx4 => ?_)
                refine w_goto rfl ?_
                exact ih33 (4 - x4.toInt).toNat (by omega) x4 rfl  (by omega)
              · skip
                refine w_iload rfl rfl ?_
                refine w_iload rfl rfl ?_
                first | refine w_isub rfl (by omega) (fun x5 tx5 => ?_) | refine w_iiU rfl (fun x5 tx5 => ?_)
                refine w_const rfl ?_
                first | refine w_irem (c := 4) rfl rfl (by decide) (by omega) (fun x6 tx6 => ?_) | refine w_iidE rfl (by omega) (fun x6 tx6 => ?_)
                refine w_iload rfl rfl ?_
                refine w_const rfl ?_
                first | refine w_irem (c := 4) rfl rfl (by decide) (by omega) (fun x7 tx7 => ?_) | refine w_iidE rfl (by omega) (fun x7 tx7 => ?_)
                refine w_ic_ne rfl (fun c8 => ?_) (fun c8 => ?_)
                · skip
                  refine w_iload rfl rfl ?_
                  refine w_const rfl ?_
                  first | refine w_iadd rfl (by omega) (fun x9 tx9 => ?_) | refine w_iiU rfl (fun x9 tx9 => ?_)
                  exact wp_iret (z := false) rfl (fun h9 => by cases h9) ⟨rfl, ⟨_, rfl, trivial⟩⟩
                · skip
                  refine w_iinc (lo' := fun z9 => [some (.inl i), some (.inl j), some (.inl z9)]) rfl rfl (fun _ => rfl) (by omega) (fun x10 tx10 => ?_)
                  refine w_goto rfl ?_
                  exact ih33 (4 - x10.toInt).toNat (by omega) x10 rfl  (by omega)
        exact loop33 _ 1 rfl  (by omega)
      · skip
        refine w_iload rfl rfl ?_
        refine w_iload rfl rfl ?_
        refine w_ic_gt rfl (fun c11 => ?_) (fun c11 => ?_)
        · skip
          refine w_iinc (lo' := fun z9 => [some (.inl i), some (.inl j), some (.inl z9)]) rfl rfl (fun _ => rfl) (by omega) (fun x12 tx12 => ?_)
          refine w_goto rfl ?_
          exact ih2 (4 - x12.toInt).toNat (by omega) x12 rfl  (by omega)
        · skip
          refine w_iload rfl rfl ?_
          refine w_iload rfl rfl ?_
          first | refine w_isub rfl (by omega) (fun x13 tx13 => ?_) | refine w_iiU rfl (fun x13 tx13 => ?_)
          refine w_const rfl ?_
          first | refine w_irem (c := 4) rfl rfl (by decide) (by omega) (fun x14 tx14 => ?_) | refine w_iidE rfl (by omega) (fun x14 tx14 => ?_)
          refine w_iload rfl rfl ?_
          refine w_const rfl ?_
          first | refine w_irem (c := 4) rfl rfl (by decide) (by omega) (fun x15 tx15 => ?_) | refine w_iidE rfl (by omega) (fun x15 tx15 => ?_)
          refine w_ic_ne rfl (fun c16 => ?_) (fun c16 => ?_)
          · skip
            refine w_iload rfl rfl ?_
            exact wp_iret (z := false) rfl (fun h9 => by cases h9) ⟨rfl, ⟨_, rfl, trivial⟩⟩
          · skip
            refine w_iinc (lo' := fun z9 => [some (.inl i), some (.inl j), some (.inl z9)]) rfl rfl (fun _ => rfl) (by omega) (fun x17 tx17 => ?_)
            refine w_goto rfl ?_
            exact ih2 (4 - x17.toInt).toNat (by omega) x17 rfl  (by omega)
  exact loop2 _ 1 rfl  (by omega)
set_option maxRecDepth 4000 in
theorem s_X12_isRiver {K : Nat} (a : Nat → Nat → Int32) (b : Nat → Nat → Int64) (v : Nat → Option Nat) (L : Nat) (i : Int32) (hR : RC K a) (h0 : v 0 = some L) (hL : L = 22 ∨ L = 46) : f_call mtC 1 103 [.inr (.inr (some 0)), .inl i] (cH a b v) (fun v9 h' => h' = cH a b v ∧ ∃ x : Int32, v9 = some (.inl x) ∧ (((x.toInt = 1 ∧ (0 ≤ i.toInt ∧ i.toInt < (a L 7).toInt)) ∨ (x.toInt = 0 ∧ ¬ (0 ≤ i.toInt ∧ i.toInt < (a L 7).toInt))) ∧ 0 ≤ (a L 7).toInt ∧ (a L 7).toInt ≤ 6)) := by
  refine f_call_of (d0 := 0) rfl (Nat.le_of_ble_eq_true rfl) (fun d hd => ?_)
  show f_wp _ (0, [some (.inr (.inr (some 0))), some (.inl i)], [], cH a b v) _
  have l0 : (0 : Int32).toInt = 0 := rfl
  have l1 : (1 : Int32).toInt = 1 := rfl
  have z7 := RC.riv hR hL
  refine w_iload rfl rfl ?_
  refine w_if_lt rfl (fun c1 => ?_) (fun c1 => ?_)
  · skip
    refine w_const rfl ?_
    exact wp_iret (z := true) rfl (fun _ => by first | exact Or.inl rfl | exact Or.inr rfl | (rcases (by omega : (0 : Int32).toInt = 0 ∨ (0 : Int32).toInt = 1) with h8 | h8; exact Or.inl (ti_eq h8); exact Or.inr (ti_eq h8))) ⟨rfl, ⟨_, rfl, by omega⟩⟩
  · skip
    refine w_iload rfl rfl ?_
    refine w_aload rfl rfl ?_
    refine c_getR (t := some L) rfl rfl rfl rfl h0 ?_
    refine c_getI rfl (sh_land (by omega)) rfl rfl ?_
    have q2 : 0 ≤ (a L 7).toInt ∧ (a L 7).toInt ≤ 6 := RC.riv hR (by omega)
    refine w_ic_ge rfl (fun c3 => ?_) (fun c3 => ?_)
    · skip
      refine w_const rfl ?_
      exact wp_iret (z := true) rfl (fun _ => by first | exact Or.inl rfl | exact Or.inr rfl | (rcases (by omega : (0 : Int32).toInt = 0 ∨ (0 : Int32).toInt = 1) with h8 | h8; exact Or.inl (ti_eq h8); exact Or.inr (ti_eq h8))) ⟨rfl, ⟨_, rfl, by omega⟩⟩
    · skip
      refine w_const rfl ?_
      refine w_goto rfl ?_
      exact wp_iret (z := true) rfl (fun _ => by first | exact Or.inl rfl | exact Or.inr rfl | (rcases (by omega : (1 : Int32).toInt = 0 ∨ (1 : Int32).toInt = 1) with h8 | h8; exact Or.inl (ti_eq h8); exact Or.inr (ti_eq h8))) ⟨rfl, ⟨_, rfl, by omega⟩⟩
set_option maxRecDepth 4000 in
theorem s_X12_areTwo {K : Nat} (a : Nat → Nat → Int32) (b : Nat → Nat → Int64) (v : Nat → Option Nat) (L : Nat) (i : Int32) (j : Int32) (hR : RC K a) (h0 : v 0 = some L) (hL : L = 22 ∨ L = 46) : f_call mtC 2 105 [.inr (.inr (some 0)), .inl i, .inl j] (cH a b v) (fun v9 h' => h' = cH a b v ∧ ∃ x : Int32, v9 = some (.inl x) ∧ ((x.toInt = 1 ∧ 0 ≤ i.toInt ∧ i.toInt ≤ 5 ∧ 0 ≤ j.toInt ∧ j.toInt ≤ 5) ∨ x.toInt = 0)) := by
  refine f_call_of (d0 := 1) rfl (Nat.le_of_ble_eq_true rfl) (fun d hd => ?_)
  show f_wp _ (0, [some (.inr (.inr (some 0))), some (.inl i), some (.inl j)], [], cH a b v) _
  have l0 : (0 : Int32).toInt = 0 := rfl
  have l1 : (1 : Int32).toInt = 1 := rfl
  refine w_aload rfl rfl ?_
  refine w_iload rfl rfl ?_
  refine w_invV (rest := []) rfl rfl rfl rfl rfl (Nat.le_of_ble_eq_true rfl) rfl (by omega) (s_X12_isRiver (K := K) a b v L i hR  (h0) (by omega)) (fun z1 h9 hq2 => ?_)
  obtain ⟨rfl, x3, rfl, px3⟩ := hq2
  show f_wp _ (5, [some (.inr (.inr (some 0))), some (.inl i), some (.inl j)], [.inl x3], cH a b v) _
  refine w_if_eq rfl (fun c4 => ?_) (fun c4 => ?_)
  · skip
    refine w_const rfl ?_
    exact wp_iret (z := true) rfl (fun _ => by first | exact Or.inl rfl | exact Or.inr rfl | (rcases (by omega : (0 : Int32).toInt = 0 ∨ (0 : Int32).toInt = 1) with h8 | h8; exact Or.inl (ti_eq h8); exact Or.inr (ti_eq h8))) ⟨rfl, ⟨_, rfl, by omega⟩⟩
  · skip
    refine w_aload rfl rfl ?_
    refine w_iload rfl rfl ?_
    refine w_invV (rest := []) rfl rfl rfl rfl rfl (Nat.le_of_ble_eq_true rfl) rfl (by omega) (s_X12_isRiver (K := K) a b v L j hR  (h0) (by omega)) (fun z5 h9 hq6 => ?_)
    obtain ⟨rfl, x7, rfl, px7⟩ := hq6
    show f_wp _ (13, [some (.inr (.inr (some 0))), some (.inl i), some (.inl j)], [.inl x7], cH a b v) _
    refine w_if_eq rfl (fun c8 => ?_) (fun c8 => ?_)
    · skip
      refine w_const rfl ?_
      exact wp_iret (z := true) rfl (fun _ => by first | exact Or.inl rfl | exact Or.inr rfl | (rcases (by omega : (0 : Int32).toInt = 0 ∨ (0 : Int32).toInt = 1) with h8 | h8; exact Or.inl (ti_eq h8); exact Or.inr (ti_eq h8))) ⟨rfl, ⟨_, rfl, by omega⟩⟩
    · skip
      refine w_iload rfl rfl ?_
      refine w_iload rfl rfl ?_
      refine w_ic_eq rfl (fun c9 => ?_) (fun c9 => ?_)
      · skip
        refine w_const rfl ?_
        exact wp_iret (z := true) rfl (fun _ => by first | exact Or.inl rfl | exact Or.inr rfl | (rcases (by omega : (0 : Int32).toInt = 0 ∨ (0 : Int32).toInt = 1) with h8 | h8; exact Or.inl (ti_eq h8); exact Or.inr (ti_eq h8))) ⟨rfl, ⟨_, rfl, by omega⟩⟩
      · skip
        refine w_const rfl ?_
        refine w_goto rfl ?_
        exact wp_iret (z := true) rfl (fun _ => by first | exact Or.inl rfl | exact Or.inr rfl | (rcases (by omega : (1 : Int32).toInt = 0 ∨ (1 : Int32).toInt = 1) with h8 | h8; exact Or.inl (ti_eq h8); exact Or.inr (ti_eq h8))) ⟨rfl, ⟨_, rfl, by omega⟩⟩
set_option maxRecDepth 4000 in
theorem s_X12_hasTown {K : Nat} (a : Nat → Nat → Int32) (b : Nat → Nat → Int64) (v : Nat → Option Nat) (L : Nat) (i : Int32) (hR : RC K a) (h0 : v 0 = some L) (hL : L = 22 ∨ L = 46) : f_call mtC 2 106 [.inr (.inr (some 0)), .inl i] (cH a b v) (fun v9 h' => h' = cH a b v ∧ ∃ x : Int32, v9 = some (.inl x) ∧ (((x.toInt = 1 ∧ (0 ≤ i.toInt ∧ i.toInt < (a L 7).toInt ∧ ¬ (a (L + 1 + 11 + 2 * i.toInt.toNat) 10).toInt = -1)) ∨ (x.toInt = 0 ∧ ¬ (0 ≤ i.toInt ∧ i.toInt < (a L 7).toInt ∧ ¬ (a (L + 1 + 11 + 2 * i.toInt.toNat) 10).toInt = -1))) ∧ (a L 7).toInt ≤ 6)) := by
  refine f_call_of (d0 := 1) rfl (Nat.le_of_ble_eq_true rfl) (fun d hd => ?_)
  show f_wp _ (0, [some (.inr (.inr (some 0))), some (.inl i)], [], cH a b v) _
  have lm1 : (-1 : Int32).toInt = -1 := rfl
  have l0 : (0 : Int32).toInt = 0 := rfl
  have l1 : (1 : Int32).toInt = 1 := rfl
  have z7 := RC.riv hR hL
  refine w_aload rfl rfl ?_
  refine w_iload rfl rfl ?_
  refine w_invV (rest := []) rfl rfl rfl rfl rfl (Nat.le_of_ble_eq_true rfl) rfl (by omega) (s_X12_isRiver (K := K) a b v L i hR  (h0) (by omega)) (fun z1 h9 hq2 => ?_)
  obtain ⟨rfl, x3, rfl, px3⟩ := hq2
  show f_wp _ (5, [some (.inr (.inr (some 0))), some (.inl i)], [.inl x3], cH a b v) _
  refine w_if_eq rfl (fun c4 => ?_) (fun c4 => ?_)
  · skip
    refine w_const rfl ?_
    exact wp_iret (z := true) rfl (fun _ => by first | exact Or.inl rfl | exact Or.inr rfl | (rcases (by omega : (0 : Int32).toInt = 0 ∨ (0 : Int32).toInt = 1) with h8 | h8; exact Or.inl (ti_eq h8); exact Or.inr (ti_eq h8))) ⟨rfl, ⟨_, rfl, by omega⟩⟩
  · skip
    refine w_aload rfl rfl ?_
    refine c_getR (t := some L) rfl rfl rfl rfl h0 ?_
    refine c_getR (t := some (L + 1)) rfl (sh_land (by omega)) rfl rfl (rC_land0 (by omega)) ?_
    refine w_iload rfl rfl ?_
    refine c_aald5 (t := some ((L + 1) + 11 + 2 * i.toInt.toNat)) rfl (sh_row (by omega)) (by omega) (rC_row (by omega)) ?_
    refine c_getI rfl (sh_riv (by omega)) rfl rfl ?_
    refine w_const rfl ?_
    refine w_ic_eq rfl (fun c5 => ?_) (fun c5 => ?_)
    · skip
      refine w_const rfl ?_
      exact wp_iret (z := true) rfl (fun _ => by first | exact Or.inl rfl | exact Or.inr rfl | (rcases (by omega : (0 : Int32).toInt = 0 ∨ (0 : Int32).toInt = 1) with h8 | h8; exact Or.inl (ti_eq h8); exact Or.inr (ti_eq h8))) ⟨rfl, ⟨_, rfl, by omega⟩⟩
    · skip
      refine w_const rfl ?_
      refine w_goto rfl ?_
      exact wp_iret (z := true) rfl (fun _ => by first | exact Or.inl rfl | exact Or.inr rfl | (rcases (by omega : (1 : Int32).toInt = 0 ∨ (1 : Int32).toInt = 1) with h8 | h8; exact Or.inl (ti_eq h8); exact Or.inr (ti_eq h8))) ⟨rfl, ⟨_, rfl, by omega⟩⟩
set_option maxRecDepth 4000 in
theorem s_X12_netNow {K : Nat} (a : Nat → Nat → Int32) (b : Nat → Nat → Int64) (v : Nat → Option Nat) (L : Nat)  (hR : RC K a) (h0 : v 0 = some L) (hL : L = 22 ∨ L = 46) : f_call mtC 4 108 [.inr (.inr (some 0))] (cH a b v) (fun v9 h' => ∃ (a' : Nat → Nat → Int32) (v' : Nat → Option Nat), h' = cH a' b v' ∧ RC K a' ∧ (FR [10, 11] a a' ∧ ((∀ i, i ∉ [5] → v' i = v i) ∧ v' 5 = some L) ∧ True) ∧ v9 = some (.inr (.inr (some 9)))) := by
  refine f_call_of (d0 := 3) rfl (Nat.le_of_ble_eq_true rfl) (fun d hd => ?_)
  show f_wp _ (0, [some (.inr (.inr (some 0)))], [], cH a b v) _
  refine w_aload rfl rfl ?_
  refine c_getR (t := some 9) rfl rfl rfl rfl rfl ?_
  refine w_aload rfl rfl ?_
  refine c_getR (t := some L) rfl rfl rfl rfl h0 ?_
  refine w_aload rfl rfl ?_
  refine c_getR (t := some 70) rfl rfl rfl rfl rfl ?_
  refine c_getR (t := some 71) rfl rfl rfl rfl rfl ?_
  refine w_invV (rest := []) rfl rfl rfl rfl rfl (Nat.le_of_ble_eq_true rfl) rfl (by omega) (s_X5_lay (K := K) a b v  L 71 hR  (by omega) (by omega)) (fun z1 h9 hq2 => ?_)
  obtain ⟨a3, v4, rfl, ha3, fa3, rfl⟩ := hq2
  show f_wp _ (18, [some (.inr (.inr (some 0)))], [], cH a3 b v4) _
  refine w_aload rfl rfl ?_
  refine c_getR (t := some 9) rfl rfl rfl rfl rfl ?_
  exact c_aret rfl ⟨a3, v4, rfl, ha3, ⟨FR.tr (FR.rf) (FR.sub fa3.1 (by first | exact (fun _ h9 => h9) | decide | (intro c9 h9; simp only [List.mem_cons, List.not_mem_nil, or_false] at h9 ⊢; omega) | (intro c9 h9; simp at h9; simp [cA]; omega) | (intro c9 h9; simp at h9; simp [cB]; omega) | (intro c9 h9; simp [cA] at h9; simp [cB]; omega))), ⟨fun i9 h9 => (fa3.2.1.1 i9 (fun z9 => h9 (by first | exact z9 | (revert z9; simp; done) | (revert z9; simp; omega)))).trans ((show ∀ i9, i9 ∉ [5] → v i9 = v i9 from (fun _ _ => rfl)) i9 h9), fa3.2.1.2⟩, trivial⟩, rfl⟩
set_option maxRecDepth 4000 in
theorem s_X12_mouthFlow {K : Nat} (a : Nat → Nat → Int32) (b : Nat → Nat → Int64) (v : Nat → Option Nat) (L : Nat) (i : Int32) (j : Int32) (hR : RC K a) (h0 : v 0 = some L) (hL : L = 22 ∨ L = 46) (hi : 0 ≤ i.toInt ∧ i.toInt ≤ 5) : f_call mtC 5 109 [.inr (.inr (some 0)), .inl i, .inl j] (cH a b v) (fun v9 h' => ∃ (a' : Nat → Nat → Int32) (v' : Nat → Option Nat), h' = cH a' b v' ∧ RC K a' ∧ (FR [10, 11] a a' ∧ ((∀ i, i ∉ [5] → v' i = v i) ∧ v' 5 = some L) ∧ True) ∧ ∃ x : Int32, v9 = some (.inl x) ∧ True) := by
  refine f_call_of (d0 := 4) rfl (Nat.le_of_ble_eq_true rfl) (fun d hd => ?_)
  show f_wp _ (0, [some (.inr (.inr (some 0))), some (.inl i), some (.inl j)], [], cH a b v) _
  refine w_aload rfl rfl ?_
  refine c_getR (t := some L) rfl rfl rfl rfl h0 ?_
  refine w_aload rfl rfl ?_
  refine w_invV (rest := [.inr (.inr (some L))]) rfl rfl rfl rfl rfl (Nat.le_of_ble_eq_true rfl) rfl (by omega) (s_X12_netNow (K := K) a b v L  hR  (h0) (by omega)) (fun z1 h9 hq2 => ?_)
  obtain ⟨a3, v4, rfl, ha3, fa3, rfl⟩ := hq2
  show f_wp _ (8, [some (.inr (.inr (some 0))), some (.inl i), some (.inl j)], [.inr (.inr (some 9)), .inr (.inr (some L))], cH a3 b v4) _
  refine c_getR (t := some 11) rfl rfl rfl rfl rfl ?_
  refine w_iload rfl rfl ?_
  refine c_iald rfl rfl (by omega) (fun x5 ex5 => ?_)
  have qx5 : 0 ≤ x5.toInt ∧ x5.toInt ≤ 63 := by rw [ex5]; exact RC.who ha3 _
  refine w_iload rfl rfl ?_
  refine w_invV (rest := []) rfl rfl (sh_land (by omega)) rfl rfl (Nat.le_of_ble_eq_true rfl) rfl (by omega) (s_X3_water (K := K) a3 b v4  L x5 j ha3  (by omega)) (fun z6 h9 hq7 => ?_)
  obtain ⟨rfl, x8, rfl, px8⟩ := hq7
  show f_wp _ (17, [some (.inr (.inr (some 0))), some (.inl i), some (.inl j)], [.inl x8], cH a3 b v4) _
  exact wp_iret (z := false) rfl (fun h9 => by cases h9) ⟨a3, v4, rfl, ha3, ⟨FR.tr (FR.rf) (FR.sub fa3.1 (by first | exact (fun _ h9 => h9) | decide | (intro c9 h9; simp only [List.mem_cons, List.not_mem_nil, or_false] at h9 ⊢; omega) | (intro c9 h9; simp at h9; simp [cA]; omega) | (intro c9 h9; simp at h9; simp [cB]; omega) | (intro c9 h9; simp [cA] at h9; simp [cB]; omega))), ⟨fun i9 h9 => (fa3.2.1.1 i9 (fun z9 => h9 (by first | exact z9 | (revert z9; simp; done) | (revert z9; simp; omega)))).trans ((show ∀ i9, i9 ∉ [5] → v i9 = v i9 from (fun _ _ => rfl)) i9 h9), fa3.2.1.2⟩, trivial⟩, ⟨_, rfl, trivial⟩⟩
set_option maxRecDepth 4000 in
theorem s_X12_townWaters {K : Nat} (a : Nat → Nat → Int32) (b : Nat → Nat → Int64) (v : Nat → Option Nat) (L : Nat) (i : Int32) (hR : RC K a) (h0 : v 0 = some L) (hL : L = 22 ∨ L = 46) (hi : 0 ≤ i.toInt ∧ i.toInt ≤ 5) : f_call mtC 5 110 [.inr (.inr (some 0)), .inl i] (cH a b v) (fun v9 h' => ∃ (a' : Nat → Nat → Int32) (v' : Nat → Option Nat), h' = cH a' b v' ∧ RC K a' ∧ (FR [10, 11] a a' ∧ ((∀ i, i ∉ [5] → v' i = v i) ∧ v' 5 = some L) ∧ True) ∧ ∃ x : Int32, v9 = some (.inl x) ∧ True) := by
  refine f_call_of (d0 := 4) rfl (Nat.le_of_ble_eq_true rfl) (fun d hd => ?_)
  show f_wp _ (0, [some (.inr (.inr (some 0))), some (.inl i)], [], cH a b v) _
  refine w_aload rfl rfl ?_
  refine w_invV (rest := []) rfl rfl rfl rfl rfl (Nat.le_of_ble_eq_true rfl) rfl (by omega) (s_X12_netNow (K := K) a b v L  hR  (h0) (by omega)) (fun z1 h9 hq2 => ?_)
  obtain ⟨a3, v4, rfl, ha3, fa3, rfl⟩ := hq2
  show f_wp _ (4, [some (.inr (.inr (some 0))), some (.inl i)], [.inr (.inr (some 9))], cH a3 b v4) _
  refine w_iload rfl rfl ?_
  refine w_aload rfl rfl ?_
  refine c_getR (t := some L) rfl rfl rfl rfl ((fa3.2.1.1 0 (by decide)).trans h0) ?_
  refine c_getR (t := some (L + 1)) rfl (sh_land (by omega)) rfl rfl (rC_land0 (by omega)) ?_
  refine w_iload rfl rfl ?_
  refine c_aald5 (t := some ((L + 1) + 11 + 2 * i.toInt.toNat)) rfl (sh_row (by omega)) (by omega) (rC_row (by omega)) ?_
  refine c_getI rfl (sh_riv (by omega)) rfl rfl ?_
  refine w_invV (rest := []) rfl rfl rfl rfl rfl (Nat.le_of_ble_eq_true rfl) rfl (by omega) (s_X5_waters (K := K) a3 b v4 L i (a3 ((L + 1) + 11 + 2 * i.toInt.toNat) 10) ha3  (fa3.2.1.2) (by omega) (by omega)) (fun z5 h9 hq6 => ?_)
  obtain ⟨rfl, x7, rfl, px7⟩ := hq6
  show f_wp _ (20, [some (.inr (.inr (some 0))), some (.inl i)], [.inl x7], cH a3 b v4) _
  exact wp_iret (z := false) rfl (fun h9 => by cases h9) ⟨a3, v4, rfl, ha3, ⟨FR.tr (FR.rf) (FR.sub fa3.1 (by first | exact (fun _ h9 => h9) | decide | (intro c9 h9; simp only [List.mem_cons, List.not_mem_nil, or_false] at h9 ⊢; omega) | (intro c9 h9; simp at h9; simp [cA]; omega) | (intro c9 h9; simp at h9; simp [cB]; omega) | (intro c9 h9; simp [cA] at h9; simp [cB]; omega))), ⟨fun i9 h9 => (fa3.2.1.1 i9 (fun z9 => h9 (by first | exact z9 | (revert z9; simp; done) | (revert z9; simp; omega)))).trans ((show ∀ i9, i9 ∉ [5] → v i9 = v i9 from (fun _ _ => rfl)) i9 h9), fa3.2.1.2⟩, trivial⟩, ⟨_, rfl, trivial⟩⟩
set_option maxRecDepth 4000 in
theorem s_X12_flow {K : Nat} (a : Nat → Nat → Int32) (b : Nat → Nat → Int64) (v : Nat → Option Nat) (L : Nat) (i : Int32) (j : Int32) (k : Int32) (hR : RC K a) (h0 : v 0 = some L) (hL : L = 22 ∨ L = 46) : f_call mtC 5 112 [.inr (.inr (some 0)), .inl i, .inl j, .inl k] (cH a b v) (fun v9 h' => ∃ (a' : Nat → Nat → Int32) (v' : Nat → Option Nat), h' = cH a' b v' ∧ RC K a' ∧ (FR [10, 11] a a' ∧ ((∀ i, i ∉ [5] → v' i = v i) ∧ (v' 5 = v 5 ∨ v' 5 = some L)) ∧ True) ∧ ∃ x : Int32, v9 = some (.inl x) ∧ True) := by
  refine f_call_of (d0 := 4) rfl (Nat.le_of_ble_eq_true rfl) (fun d hd => ?_)
  show f_wp _ (0, [some (.inr (.inr (some 0))), some (.inl i), some (.inl j), some (.inl k), none], [], cH a b v) _
  have lm1 : (-1 : Int32).toInt = -1 := rfl
  refine w_aload rfl rfl ?_
  refine w_iload rfl rfl ?_
  refine w_invV (rest := []) rfl rfl rfl rfl rfl (Nat.le_of_ble_eq_true rfl) rfl (by omega) (s_X12_isRiver (K := K) a b v L i hR  (h0) (by omega)) (fun z1 h9 hq2 => ?_)
  obtain ⟨rfl, x3, rfl, px3⟩ := hq2
  show f_wp _ (5, [some (.inr (.inr (some 0))), some (.inl i), some (.inl j), some (.inl k), none], [.inl x3], cH a b v) _
  refine w_if_eq rfl (fun c4 => ?_) (fun c4 => ?_)
  · skip
    refine w_const rfl ?_
    exact wp_iret (z := false) rfl (fun h9 => by cases h9) ⟨a, v, rfl, hR, ⟨FR.rf, ⟨(fun _ _ => rfl), Or.inl rfl⟩, trivial⟩, ⟨_, rfl, trivial⟩⟩
  · skip
    refine w_iload rfl rfl ?_
    refine w_invS (rest := []) rfl (Nat.le_of_ble_eq_true rfl) rfl (Nat.le_of_ble_eq_true rfl) rfl (by omega) (s_X12_isSeason (K := K) a b v  k   ) (fun z5 h9 hq6 => ?_)
    obtain ⟨rfl, x7, rfl, px7⟩ := hq6
    show f_wp _ (12, [some (.inr (.inr (some 0))), some (.inl i), some (.inl j), some (.inl k), none], [.inl x7], cH a b v) _
    refine w_if_ne rfl (fun c8 => ?_) (fun c8 => ?_)
    · skip
      refine w_const rfl ?_
      exact wp_iret (z := false) rfl (fun h9 => by cases h9) ⟨a, v, rfl, hR, ⟨FR.rf, ⟨(fun _ _ => rfl), Or.inl rfl⟩, trivial⟩, ⟨_, rfl, trivial⟩⟩
    · skip
      refine w_aload rfl rfl ?_
      refine c_getR (t := some L) rfl rfl rfl rfl h0 ?_
      refine c_getR (t := some (L + 1)) rfl (sh_land (by omega)) rfl rfl (rC_land0 (by omega)) ?_
      refine w_iload rfl rfl ?_
      refine c_aald5 (t := some ((L + 1) + 11 + 2 * i.toInt.toNat)) rfl (sh_row (by omega)) (by omega) (rC_row (by omega)) ?_
      refine w_astore (lo' := [some (.inr (.inr (some 0))), some (.inl i), some (.inl j), some (.inl k), some (.inr (.inr (some ((L + 1) + 11 + 2 * i.toInt.toNat))))]) rfl rfl ?_
      refine w_iload rfl rfl ?_
      refine w_aload rfl rfl ?_
      refine c_getI rfl (sh_riv (by omega)) rfl rfl ?_
      refine w_ic_gt rfl (fun c9 => ?_) (fun c9 => ?_)
      · skip
        refine w_const rfl ?_
        exact wp_iret (z := false) rfl (fun h9 => by cases h9) ⟨a, v, rfl, hR, ⟨FR.rf, ⟨(fun _ _ => rfl), Or.inl rfl⟩, trivial⟩, ⟨_, rfl, trivial⟩⟩
      · skip
        refine w_iload rfl rfl ?_
        refine w_aload rfl rfl ?_
        refine c_getI rfl (sh_riv (by omega)) rfl rfl ?_
        refine w_ic_ge rfl (fun c10 => ?_) (fun c10 => ?_)
        · skip
          refine w_aload rfl rfl ?_
          refine c_getR (t := some L) rfl rfl rfl rfl h0 ?_
          refine w_aload rfl rfl ?_
          refine w_invV (rest := [.inr (.inr (some L))]) rfl rfl rfl rfl rfl (Nat.le_of_ble_eq_true rfl) rfl (by omega) (s_X12_netNow (K := K) a b v L  hR  (h0) (by omega)) (fun z11 h9 hq12 => ?_)
          obtain ⟨a13, v14, rfl, ha13, fa13, rfl⟩ := hq12
          show f_wp _ (56, [some (.inr (.inr (some 0))), some (.inl i), some (.inl j), some (.inl k), some (.inr (.inr (some ((L + 1) + 11 + 2 * i.toInt.toNat))))], [.inr (.inr (some 9)), .inr (.inr (some L))], cH a13 b v14) _
          refine w_iload rfl rfl ?_
          refine w_iload rfl rfl ?_
          refine w_invV (rest := [.inr (.inr (some L))]) rfl rfl rfl rfl rfl (Nat.le_of_ble_eq_true rfl) rfl (by omega) (s_X5_waters (K := K) a13 b v14 L i j ha13  (fa13.2.1.2) (by omega) (by omega)) (fun z15 h9 hq16 => ?_)
          obtain ⟨rfl, x17, rfl, px17⟩ := hq16
          show f_wp _ (61, [some (.inr (.inr (some 0))), some (.inl i), some (.inl j), some (.inl k), some (.inr (.inr (some ((L + 1) + 11 + 2 * i.toInt.toNat))))], [.inl x17, .inr (.inr (some L))], cH a13 b v14) _
          refine w_iload rfl rfl ?_
          refine w_invV (rest := []) rfl rfl (sh_land (by omega)) rfl rfl (Nat.le_of_ble_eq_true rfl) rfl (by omega) (s_X3_water (K := K) a13 b v14  L x17 k ha13  (by omega)) (fun z18 h9 hq19 => ?_)
          obtain ⟨rfl, x20, rfl, px20⟩ := hq19
          show f_wp _ (65, [some (.inr (.inr (some 0))), some (.inl i), some (.inl j), some (.inl k), some (.inr (.inr (some ((L + 1) + 11 + 2 * i.toInt.toNat))))], [.inl x20], cH a13 b v14) _
          exact wp_iret (z := false) rfl (fun h9 => by cases h9) ⟨a13, v14, rfl, ha13, ⟨FR.tr (FR.rf) (FR.sub fa13.1 (by first | exact (fun _ h9 => h9) | decide | (intro c9 h9; simp only [List.mem_cons, List.not_mem_nil, or_false] at h9 ⊢; omega) | (intro c9 h9; simp at h9; simp [cA]; omega) | (intro c9 h9; simp at h9; simp [cB]; omega) | (intro c9 h9; simp [cA] at h9; simp [cB]; omega))), ⟨fun i9 h9 => (fa13.2.1.1 i9 (fun z9 => h9 (by first | exact z9 | (revert z9; simp; done) | (revert z9; simp; omega)))).trans ((show ∀ i9, i9 ∉ [5] → v i9 = v i9 from (fun _ _ => rfl)) i9 h9), Or.inr fa13.2.1.2⟩, trivial⟩, ⟨_, rfl, trivial⟩⟩
        · skip
          refine w_const rfl ?_
          exact wp_iret (z := false) rfl (fun h9 => by cases h9) ⟨a, v, rfl, hR, ⟨FR.rf, ⟨(fun _ _ => rfl), Or.inl rfl⟩, trivial⟩, ⟨_, rfl, trivial⟩⟩
set_option maxRecDepth 4000 in
theorem s_X12_needs {K : Nat} (a : Nat → Nat → Int32) (b : Nat → Nat → Int64) (v : Nat → Option Nat) (L : Nat) (i : Int32) (hR : RC K a) (h0 : v 0 = some L) (hL : L = 22 ∨ L = 46) : f_call mtC 5 113 [.inr (.inr (some 0)), .inl i] (cH a b v) (fun v9 h' => ∃ (a' : Nat → Nat → Int32) (v' : Nat → Option Nat), h' = cH a' b v' ∧ RC K a' ∧ (FR [10, 11] a a' ∧ ((∀ i, i ∉ [5] → v' i = v i) ∧ (v' 5 = v 5 ∨ v' 5 = some L)) ∧ True) ∧ ∃ x : Int32, v9 = some (.inl x) ∧ True) := by
  refine f_call_of (d0 := 4) rfl (Nat.le_of_ble_eq_true rfl) (fun d hd => ?_)
  show f_wp _ (0, [some (.inr (.inr (some 0))), some (.inl i)], [], cH a b v) _
  have lm1 : (-1 : Int32).toInt = -1 := rfl
  have l1 : (1 : Int32).toInt = 1 := rfl
  refine w_iload rfl rfl ?_
  refine w_if_ne rfl (fun c1 => ?_) (fun c1 => ?_)
  · skip
    refine w_aload rfl rfl ?_
    refine w_invV (rest := []) rfl rfl rfl rfl rfl (Nat.le_of_ble_eq_true rfl) rfl (by omega) (s_X12_netNow (K := K) a b v L  hR  (h0) (by omega)) (fun z2 h9 hq3 => ?_)
    obtain ⟨a4, v5, rfl, ha4, fa4, rfl⟩ := hq3
    show f_wp _ (8, [some (.inr (.inr (some 0))), some (.inl i)], [.inr (.inr (some 9))], cH a4 b v5) _
    refine w_aload rfl rfl ?_
    refine w_invV (rest := [.inr (.inr (some 9))]) rfl rfl rfl rfl rfl (Nat.le_of_ble_eq_true rfl) rfl (by omega) (s_X12_season (K := K) a4 b v5   ha4  ) (fun z6 h9 hq7 => ?_)
    obtain ⟨rfl, x8, rfl, px8⟩ := hq7
    show f_wp _ (12, [some (.inr (.inr (some 0))), some (.inl i)], [.inl x8, .inr (.inr (some 9))], cH a4 b v5) _
    refine w_invV (rest := []) rfl rfl rfl rfl rfl (Nat.le_of_ble_eq_true rfl) rfl (by omega) (s_X5_dryMills (K := K) a4 b v5 L x8 ha4  (fa4.2.1.2) (by omega)) (fun z9 h9 hq10 => ?_)
    obtain ⟨rfl, x11, rfl, px11⟩ := hq10
    show f_wp _ (15, [some (.inr (.inr (some 0))), some (.inl i)], [.inl x11], cH a4 b v5) _
    exact wp_iret (z := false) rfl (fun h9 => by cases h9) ⟨a4, v5, rfl, ha4, ⟨FR.tr (FR.rf) (FR.sub fa4.1 (by first | exact (fun _ h9 => h9) | decide | (intro c9 h9; simp only [List.mem_cons, List.not_mem_nil, or_false] at h9 ⊢; omega) | (intro c9 h9; simp at h9; simp [cA]; omega) | (intro c9 h9; simp at h9; simp [cB]; omega) | (intro c9 h9; simp [cA] at h9; simp [cB]; omega))), ⟨fun i9 h9 => (fa4.2.1.1 i9 (fun z9 => h9 (by first | exact z9 | (revert z9; simp; done) | (revert z9; simp; omega)))).trans ((show ∀ i9, i9 ∉ [5] → v i9 = v i9 from (fun _ _ => rfl)) i9 h9), Or.inr fa4.2.1.2⟩, trivial⟩, ⟨_, rfl, trivial⟩⟩
  · skip
    refine w_iload rfl rfl ?_
    refine w_const rfl ?_
    refine w_ic_ne rfl (fun c12 => ?_) (fun c12 => ?_)
    · skip
      refine w_aload rfl rfl ?_
      refine w_invV (rest := []) rfl rfl rfl rfl rfl (Nat.le_of_ble_eq_true rfl) rfl (by omega) (s_X12_netNow (K := K) a b v L  hR  (h0) (by omega)) (fun z13 h9 hq14 => ?_)
      obtain ⟨a15, v16, rfl, ha15, fa15, rfl⟩ := hq14
      show f_wp _ (25, [some (.inr (.inr (some 0))), some (.inl i)], [.inr (.inr (some 9))], cH a15 b v16) _
      refine w_aload rfl rfl ?_
      refine w_invV (rest := [.inr (.inr (some 9))]) rfl rfl rfl rfl rfl (Nat.le_of_ble_eq_true rfl) rfl (by omega) (s_X12_season (K := K) a15 b v16   ha15  ) (fun z17 h9 hq18 => ?_)
      obtain ⟨rfl, x19, rfl, px19⟩ := hq18
      show f_wp _ (29, [some (.inr (.inr (some 0))), some (.inl i)], [.inl x19, .inr (.inr (some 9))], cH a15 b v16) _
      refine w_invV (rest := []) rfl rfl rfl rfl rfl (Nat.le_of_ble_eq_true rfl) rfl (by omega) (s_X5_floodedTowns (K := K) a15 b v16 L x19 ha15  (fa15.2.1.2) (by omega)) (fun z20 h9 hq21 => ?_)
      obtain ⟨rfl, x22, rfl, px22⟩ := hq21
      show f_wp _ (32, [some (.inr (.inr (some 0))), some (.inl i)], [.inl x22], cH a15 b v16) _
      exact wp_iret (z := false) rfl (fun h9 => by cases h9) ⟨a15, v16, rfl, ha15, ⟨FR.tr (FR.rf) (FR.sub fa15.1 (by first | exact (fun _ h9 => h9) | decide | (intro c9 h9; simp only [List.mem_cons, List.not_mem_nil, or_false] at h9 ⊢; omega) | (intro c9 h9; simp at h9; simp [cA]; omega) | (intro c9 h9; simp at h9; simp [cB]; omega) | (intro c9 h9; simp [cA] at h9; simp [cB]; omega))), ⟨fun i9 h9 => (fa15.2.1.1 i9 (fun z9 => h9 (by first | exact z9 | (revert z9; simp; done) | (revert z9; simp; omega)))).trans ((show ∀ i9, i9 ∉ [5] → v i9 = v i9 from (fun _ _ => rfl)) i9 h9), Or.inr fa15.2.1.2⟩, trivial⟩, ⟨_, rfl, trivial⟩⟩
    · skip
      refine w_const rfl ?_
      exact wp_iret (z := false) rfl (fun h9 => by cases h9) ⟨a, v, rfl, hR, ⟨FR.rf, ⟨(fun _ _ => rfl), Or.inl rfl⟩, trivial⟩, ⟨_, rfl, trivial⟩⟩
set_option maxRecDepth 4000 in
theorem s_X12_near {K : Nat} (a : Nat → Nat → Int32) (b : Nat → Nat → Int64) (v : Nat → Option Nat) (L : Nat) (i : Int32) (j : Int32) (hR : RC K a) (h0 : v 0 = some L) (hL : L = 22 ∨ L = 46) : f_call mtC 2 114 [.inr (.inr (some 0)), .inl i, .inl j] (cH a b v) (fun v9 h' => h' = cH a b v ∧ ∃ x : Int32, v9 = some (.inl x) ∧ True) := by
  refine f_call_of (d0 := 1) rfl (Nat.le_of_ble_eq_true rfl) (fun d hd => ?_)
  show f_wp _ (0, [some (.inr (.inr (some 0))), some (.inl i), some (.inl j)], [], cH a b v) _
  have lm1 : (-1 : Int32).toInt = -1 := rfl
  refine w_aload rfl rfl ?_
  refine w_iload rfl rfl ?_
  refine w_invV (rest := []) rfl rfl rfl rfl rfl (Nat.le_of_ble_eq_true rfl) rfl (by omega) (s_X12_isRiver (K := K) a b v L i hR  (h0) (by omega)) (fun z1 h9 hq2 => ?_)
  obtain ⟨rfl, x3, rfl, px3⟩ := hq2
  show f_wp _ (5, [some (.inr (.inr (some 0))), some (.inl i), some (.inl j)], [.inl x3], cH a b v) _
  refine w_if_eq rfl (fun c4 => ?_) (fun c4 => ?_)
  · skip
    refine w_const rfl ?_
    exact wp_iret (z := false) rfl (fun h9 => by cases h9) ⟨rfl, ⟨_, rfl, trivial⟩⟩
  · skip
    refine w_aload rfl rfl ?_
    refine w_iload rfl rfl ?_
    refine w_invV (rest := []) rfl rfl rfl rfl rfl (Nat.le_of_ble_eq_true rfl) rfl (by omega) (s_X12_isRiver (K := K) a b v L j hR  (h0) (by omega)) (fun z5 h9 hq6 => ?_)
    obtain ⟨rfl, x7, rfl, px7⟩ := hq6
    show f_wp _ (13, [some (.inr (.inr (some 0))), some (.inl i), some (.inl j)], [.inl x7], cH a b v) _
    refine w_if_eq rfl (fun c8 => ?_) (fun c8 => ?_)
    · skip
      refine w_const rfl ?_
      exact wp_iret (z := false) rfl (fun h9 => by cases h9) ⟨rfl, ⟨_, rfl, trivial⟩⟩
    · skip
      refine w_aload rfl rfl ?_
      refine c_getR (t := some L) rfl rfl rfl rfl h0 ?_
      refine w_iload rfl rfl ?_
      refine w_iload rfl rfl ?_
      refine w_invV (rest := []) rfl rfl (sh_land (by omega)) rfl rfl (Nat.le_of_ble_eq_true rfl) rfl (by omega) (s_X3_kinSteps (K := K) a b v  L i j hR  (by omega) (by omega) (by omega)) (fun z9 h9 hq10 => ?_)
      obtain ⟨rfl, x11, rfl, px11⟩ := hq10
      show f_wp _ (25, [some (.inr (.inr (some 0))), some (.inl i), some (.inl j)], [.inl x11], cH a b v) _
      refine w_goto rfl ?_
      exact wp_iret (z := false) rfl (fun h9 => by cases h9) ⟨rfl, ⟨_, rfl, trivial⟩⟩
set_option maxRecDepth 4000 in
theorem s_X12_dig {K : Nat} (a : Nat → Nat → Int32) (b : Nat → Nat → Int64) (v : Nat → Option Nat) (L : Nat) (i : Int32) (j : Int32) (hR : RC K a) (h0 : v 0 = some L) (hL : L = 22 ∨ L = 46) : f_call mtC 4 115 [.inr (.inr (some 0)), .inl i, .inl j] (cH a b v) (fun v9 h' => h' = cH a b v ∧ ∃ x : Int32, v9 = some (.inl x) ∧ True) := by
  refine f_call_of (d0 := 3) rfl (Nat.le_of_ble_eq_true rfl) (fun d hd => ?_)
  show f_wp _ (0, [some (.inr (.inr (some 0))), some (.inl i), some (.inl j)], [], cH a b v) _
  have lm1 : (-1 : Int32).toInt = -1 := rfl
  refine w_aload rfl rfl ?_
  refine w_iload rfl rfl ?_
  refine w_iload rfl rfl ?_
  refine w_invV (rest := []) rfl rfl rfl rfl rfl (Nat.le_of_ble_eq_true rfl) rfl (by omega) (s_X12_areTwo (K := K) a b v L i j hR  (h0) (by omega)) (fun z1 h9 hq2 => ?_)
  obtain ⟨rfl, x3, rfl, px3⟩ := hq2
  show f_wp _ (6, [some (.inr (.inr (some 0))), some (.inl i), some (.inl j)], [.inl x3], cH a b v) _
  refine w_if_eq rfl (fun c4 => ?_) (fun c4 => ?_)
  · skip
    refine w_const rfl ?_
    exact wp_iret (z := false) rfl (fun h9 => by cases h9) ⟨rfl, ⟨_, rfl, trivial⟩⟩
  · skip
    refine w_aload rfl rfl ?_
    refine c_getR (t := some L) rfl rfl rfl rfl h0 ?_
    refine w_iload rfl rfl ?_
    refine w_iload rfl rfl ?_
    refine w_invV (rest := []) rfl rfl (sh_land (by omega)) rfl rfl (Nat.le_of_ble_eq_true rfl) rfl (by omega) (s_X3_digging (K := K) a b v  L i j hR  (by omega) (by omega) (by omega)) (fun z5 h9 hq6 => ?_)
    obtain ⟨rfl, x7, rfl, px7⟩ := hq6
    show f_wp _ (18, [some (.inr (.inr (some 0))), some (.inl i), some (.inl j)], [.inl x7], cH a b v) _
    refine w_goto rfl ?_
    exact wp_iret (z := false) rfl (fun h9 => by cases h9) ⟨rfl, ⟨_, rfl, trivial⟩⟩
set_option maxRecDepth 4000 in
theorem s_X12_may {K : Nat} (a : Nat → Nat → Int32) (b : Nat → Nat → Int64) (v : Nat → Option Nat) (L : Nat) (i : Int32) (hR : RC K a) (h0 : v 0 = some L) (hL : L = 22 ∨ L = 46) : f_call mtC 5 116 [.inr (.inr (some 0)), .inl i] (cH a b v) (fun v9 h' => ∃ (a' : Nat → Nat → Int32) (v' : Nat → Option Nat), h' = cH a' b v' ∧ RC K a' ∧ (FR [10, 11] a a' ∧ ((∀ i, i ∉ [5] → v' i = v i) ∧ (v' 5 = v 5 ∨ v' 5 = some L)) ∧ True) ∧ ∃ x : Int32, v9 = some (.inl x) ∧ True) := by
  refine f_call_of (d0 := 4) rfl (Nat.le_of_ble_eq_true rfl) (fun d hd => ?_)
  show f_wp _ (0, [some (.inr (.inr (some 0))), some (.inl i), none, none, none], [], cH a b v) _
  have lm1 : (-1 : Int32).toInt = -1 := rfl
  have l0 : (0 : Int32).toInt = 0 := rfl
  have l1 : (1 : Int32).toInt = 1 := rfl
  refine w_aload rfl rfl ?_
  refine w_iload rfl rfl ?_
  refine w_invV (rest := []) rfl rfl rfl rfl rfl (Nat.le_of_ble_eq_true rfl) rfl (by omega) (s_X12_isRiver (K := K) a b v L i hR  (h0) (by omega)) (fun z1 h9 hq2 => ?_)
  obtain ⟨rfl, x3, rfl, px3⟩ := hq2
  show f_wp _ (5, [some (.inr (.inr (some 0))), some (.inl i), none, none, none], [.inl x3], cH a b v) _
  refine w_if_ne rfl (fun c4 => ?_) (fun c4 => ?_)
  · skip
    refine w_const rfl ?_
    exact wp_iret (z := false) rfl (fun h9 => by cases h9) ⟨a, v, rfl, hR, ⟨FR.rf, ⟨(fun _ _ => rfl), Or.inl rfl⟩, trivial⟩, ⟨_, rfl, trivial⟩⟩
  · skip
    refine w_aload rfl rfl ?_
    refine w_invV (rest := []) rfl rfl rfl rfl rfl (Nat.le_of_ble_eq_true rfl) rfl (by omega) (s_X12_netNow (K := K) a b v L  hR  (h0) (by omega)) (fun z5 h9 hq6 => ?_)
    obtain ⟨a7, v8, rfl, ha7, fa7, rfl⟩ := hq6
    show f_wp _ (14, [some (.inr (.inr (some 0))), some (.inl i), none, none, none], [.inr (.inr (some 9))], cH a7 b v8) _
    refine w_astore (lo' := [some (.inr (.inr (some 0))), some (.inl i), some (.inr (.inr (some 9))), none, none]) rfl rfl ?_
    refine w_const rfl ?_
    refine w_istore (lo' := [some (.inr (.inr (some 0))), some (.inl i), some (.inr (.inr (some 9))), some (.inl 0), none]) rfl rfl ?_
    refine w_const rfl ?_
    refine w_istore (lo' := [some (.inr (.inr (some 0))), some (.inl i), some (.inr (.inr (some 9))), some (.inl 0), some (.inl 0)]) rfl rfl ?_
    have loop20 : ∀ (ms9 : Nat) (se : Int32) (r : Int32) , (6 - r.toInt).toNat = ms9 → (0 ≤ r.toInt ∧ r.toInt ≤ 6) → f_wp (f_code (t_X12_may (f_ev mtC d))) (20, [some (.inr (.inr (some 0))), some (.inl i), some (.inr (.inr (some 9))), some (.inl se), some (.inl r)], [], cH a7 b v8) (fun v9 h' => ∃ (a' : Nat → Nat → Int32) (v' : Nat → Option Nat), h' = cH a' b v' ∧ RC K a' ∧ (FR [10, 11] a a' ∧ ((∀ i, i ∉ [5] → v' i = v i) ∧ (v' 5 = v 5 ∨ v' 5 = some L)) ∧ True) ∧ ∃ x : Int32, v9 = some (.inl x) ∧ True) := by
      intro ms9
      induction ms9 using Nat.strongRecOn with
      | _ ms20 ih20 =>
        intro se r  hm20 hr
        refine w_iload rfl rfl ?_
        refine w_aload rfl rfl ?_
        refine c_getR (t := some L) rfl rfl rfl rfl ((fa7.2.1.1 0 (by decide)).trans h0) ?_
        refine c_getI rfl (sh_land (by omega)) rfl rfl ?_
        have q9 : 0 ≤ (a7 L 7).toInt ∧ (a7 L 7).toInt ≤ 6 := RC.riv ha7 (by omega)
        refine w_ic_ge rfl (fun c10 => ?_) (fun c10 => ?_)
        · skip
          refine w_iload rfl rfl ?_
          exact wp_iret (z := false) rfl (fun h9 => by cases h9) ⟨a7, v8, rfl, ha7, ⟨FR.tr (FR.rf) (FR.sub fa7.1 (by first | exact (fun _ h9 => h9) | decide | (intro c9 h9; simp only [List.mem_cons, List.not_mem_nil, or_false] at h9 ⊢; omega) | (intro c9 h9; simp at h9; simp [cA]; omega) | (intro c9 h9; simp at h9; simp [cB]; omega) | (intro c9 h9; simp [cA] at h9; simp [cB]; omega))), ⟨fun i9 h9 => (fa7.2.1.1 i9 (fun z9 => h9 (by first | exact z9 | (revert z9; simp; done) | (revert z9; simp; omega)))).trans ((show ∀ i9, i9 ∉ [5] → v i9 = v i9 from (fun _ _ => rfl)) i9 h9), Or.inr fa7.2.1.2⟩, trivial⟩, ⟨_, rfl, trivial⟩⟩
        · skip
          refine w_aload rfl rfl ?_
          refine w_iload rfl rfl ?_
          refine w_iload rfl rfl ?_
          refine w_invV (rest := []) rfl rfl rfl rfl rfl (Nat.le_of_ble_eq_true rfl) rfl (by omega) (s_X5_allows (K := K) a7 b v8 L i r ha7  (fa7.2.1.2) (by omega)) (fun z11 h9 hq12 => ?_)
          obtain ⟨rfl, x13, rfl, px13⟩ := hq12
          show f_wp _ (39, [some (.inr (.inr (some 0))), some (.inl i), some (.inr (.inr (some 9))), some (.inl se), some (.inl r)], [.inl x13], cH a7 b v8) _
          refine w_if_eq rfl (fun c14 => ?_) (fun c14 => ?_)
          · skip
            refine w_iinc (lo' := fun z9 => [some (.inr (.inr (some 0))), some (.inl i), some (.inr (.inr (some 9))), some (.inl se), some (.inl z9)]) rfl rfl (fun _ => rfl) (by omega) (fun x15 tx15 => ?_)
            refine w_goto rfl ?_
            exact ih20 (6 - x15.toInt).toNat (by omega) se x15 rfl  (by omega)
          · skip
            refine w_iload rfl rfl ?_
            refine w_const rfl ?_
            refine w_iload rfl rfl ?_
            refine w_iiE rfl (fun x16 tx16 => ?_)
            refine w_iiE rfl (fun x17 tx17 => ?_)
            refine w_istore (lo' := [some (.inr (.inr (some 0))), some (.inl i), some (.inr (.inr (some 9))), some (.inl x17), some (.inl r)]) rfl rfl ?_
            refine w_iinc (lo' := fun z9 => [some (.inr (.inr (some 0))), some (.inl i), some (.inr (.inr (some 9))), some (.inl x17), some (.inl z9)]) rfl rfl (fun _ => rfl) (by omega) (fun x18 tx18 => ?_)
            refine w_goto rfl ?_
            exact ih20 (6 - x18.toInt).toNat (by omega) x17 x18 rfl  (by omega)
    exact loop20 _ 0 0 rfl  (by omega)
set_option maxRecDepth 4000 in
theorem s_X12_ends {K : Nat} (a : Nat → Nat → Int32) (b : Nat → Nat → Int64) (v : Nat → Option Nat) (L : Nat)  (hR : RC K a) (h0 : v 0 = some L) (hL : L = 22 ∨ L = 46) : f_call mtC 2 117 [.inr (.inr (some 0))] (cH a b v) (fun v9 h' => h' = cH a b v ∧ ∃ x : Int32, v9 = some (.inl x) ∧ True) := by
  refine f_call_of (d0 := 1) rfl (Nat.le_of_ble_eq_true rfl) (fun d hd => ?_)
  show f_wp _ (0, [some (.inr (.inr (some 0))), none, none, none], [], cH a b v) _
  have lm1 : (-1 : Int32).toInt = -1 := rfl
  have l0 : (0 : Int32).toInt = 0 := rfl
  have l1 : (1 : Int32).toInt = 1 := rfl
  refine w_const rfl ?_
  refine w_istore (lo' := [some (.inr (.inr (some 0))), some (.inl 0), none, none]) rfl rfl ?_
  refine w_const rfl ?_
  refine w_istore (lo' := [some (.inr (.inr (some 0))), some (.inl 0), some (.inl 0), none]) rfl rfl ?_
  have loop4 : ∀ (ms9 : Nat) (se : Int32) (r : Int32) (o3_4 : Option f_V), (6 - r.toInt).toNat = ms9 → (0 ≤ r.toInt ∧ r.toInt ≤ 6) → f_wp (f_code (t_X12_ends (f_ev mtC d))) (4, [some (.inr (.inr (some 0))), some (.inl se), some (.inl r), o3_4], [], cH a b v) (fun v9 h' => h' = cH a b v ∧ ∃ x : Int32, v9 = some (.inl x) ∧ True) := by
    intro ms9
    induction ms9 using Nat.strongRecOn with
    | _ ms4 ih4 =>
      intro se r o3_4 hm4 hr
      refine w_iload rfl rfl ?_
      refine w_aload rfl rfl ?_
      refine c_getR (t := some L) rfl rfl rfl rfl h0 ?_
      refine c_getI rfl (sh_land (by omega)) rfl rfl ?_
      have q1 : 0 ≤ (a L 7).toInt ∧ (a L 7).toInt ≤ 6 := RC.riv hR (by omega)
      refine w_ic_ge rfl (fun c2 => ?_) (fun c2 => ?_)
      · skip
        refine w_aload rfl rfl ?_
        refine c_getR (t := some L) rfl rfl rfl rfl h0 ?_
        refine w_invV (rest := []) rfl rfl (sh_land (by omega)) rfl rfl (Nat.le_of_ble_eq_true rfl) rfl (by omega) (s_X3_all_1 (K := K) a b v  L hR  (by omega)) (fun z3 h9 hq4 => ?_)
        obtain ⟨rfl, x5, rfl, px5⟩ := hq4
        show f_wp _ (50, [some (.inr (.inr (some 0))), some (.inl se), some (.inl r), o3_4], [.inl x5], cH a b v) _
        refine w_iload rfl rfl ?_
        refine w_const rfl ?_
        refine w_iiE rfl (fun x6 tx6 => ?_)
        refine w_iiE rfl (fun x7 tx7 => ?_)
        exact wp_iret (z := false) rfl (fun h9 => by cases h9) ⟨rfl, ⟨_, rfl, trivial⟩⟩
      · skip
        refine w_aload rfl rfl ?_
        refine c_getR (t := some L) rfl rfl rfl rfl h0 ?_
        refine c_getR (t := some (L + 10)) rfl (sh_land (by omega)) rfl rfl (rC_land5 (by omega)) ?_
        refine w_iload rfl rfl ?_
        refine c_iald rfl (sh_fits (by omega)) (by omega) (fun x8 ex8 => ?_)
        refine w_istore (lo' := [some (.inr (.inr (some 0))), some (.inl se), some (.inl r), some (.inl x8)]) rfl rfl ?_
        refine w_iload rfl rfl ?_
        refine w_if_eq rfl (fun c9 => ?_) (fun c9 => ?_)
        · skip
          refine w_iinc (lo' := fun z9 => [some (.inr (.inr (some 0))), some (.inl se), some (.inl z9), some (.inl x8)]) rfl rfl (fun _ => rfl) (by omega) (fun x10 tx10 => ?_)
          refine w_goto rfl ?_
          exact ih4 (6 - x10.toInt).toNat (by omega) se x10 (some (.inl x8)) rfl  (by omega)
        · skip
          refine w_iload rfl rfl ?_
          refine w_iload rfl rfl ?_
          refine w_const rfl ?_
          refine w_iload rfl rfl ?_
          refine w_iiE rfl (fun x11 tx11 => ?_)
          refine w_iiE rfl (fun x12 tx12 => ?_)
          refine w_iiE rfl (fun x13 tx13 => ?_)
          refine w_istore (lo' := [some (.inr (.inr (some 0))), some (.inl x13), some (.inl r), some (.inl x8)]) rfl rfl ?_
          refine w_iinc (lo' := fun z9 => [some (.inr (.inr (some 0))), some (.inl x13), some (.inl z9), some (.inl x8)]) rfl rfl (fun _ => rfl) (by omega) (fun x14 tx14 => ?_)
          refine w_goto rfl ?_
          exact ih4 (6 - x14.toInt).toNat (by omega) x13 x14 (some (.inl x8)) rfl  (by omega)
  exact loop4 _ 0 0 none rfl  (by omega)
