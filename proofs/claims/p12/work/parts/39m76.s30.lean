set_option maxHeartbeats 2000000 in
set_option maxRecDepth 4000 in
theorem s_vows {K : Nat} (a : Nat → Nat → Int32) (b : Nat → Nat → Int64)  (hR : RM K a) (hLn : LNI a) : f_call mtM 6 27 [.inr (.inr (some 0))] (mH a b) (fun v9 h' => ∃ (a' : Nat → Nat → Int32) (b' : Nat → Nat → Int64), h' = mH a' b' ∧ RM K a' ∧ (FR [0, 2, 3, 11] a a' ∧ (LNI a' ∧ (a' 0 2).toInt = 0)) ∧ ∃ x : Int32, v9 = some (.inl x) ∧ True) := by
  refine f_call_of (d0 := 5) rfl (Nat.le_of_ble_eq_true rfl) (fun d hd => ?_)
  show f_wp _ (0, [some (.inr (.inr (some 0))), none, none, none, none], [], mH a b) _
  have lm1 : (-1 : Int32).toInt = -1 := rfl
  have l0 : (0 : Int32).toInt = 0 := rfl
  have l1 : (1 : Int32).toInt = 1 := rfl
  have l2 : (2 : Int32).toInt = 2 := rfl
  have l3 : (3 : Int32).toInt = 3 := rfl
  have l5 : (5 : Int32).toInt = 5 := rfl
  have l16 : (16 : Int32).toInt = 16 := rfl
  have l24 : (24 : Int32).toInt = 24 := rfl
  have l59 : (59 : Int32).toInt = 59 := rfl
  have l80 : (80 : Int32).toInt = 80 := rfl
  have l81 : (81 : Int32).toInt = 81 := rfl
  have l82 : (82 : Int32).toInt = 82 := rfl
  refine w_aload rfl rfl ?_
  refine w_const rfl ?_
  refine m_putI (z := false) rfl rfl rfl rfl (by first | (intro h9; cases h9; done) | (intro _; first | exact Or.inl rfl | exact Or.inr rfl | assumption)) (fun a1 ea1 => ?_)
  have ha1 : RM K a1 := RM.up hR ea1 ⟨ti_lo _, ti_hi _⟩
  have ua1_0 : a1 0 0 = (0 : Int32) := by rw [ea1, mU_same]
  have wa1_0 := congrArg Int32.toInt ua1_0
  refine w_aload rfl rfl ?_
  refine w_invV (rest := []) rfl rfl rfl rfl rfl (Nat.le_of_ble_eq_true rfl) rfl (by omega) (s_cutAll (K := K) a1 b   ha1 ) (fun v2 h9 hq3 => ?_)
  obtain ⟨a4, b5, rfl, ha4, fa4, rfl⟩ := hq3
  show f_wp _ (9, [some (.inr (.inr (some 0))), none, none, none, none], [], mH a4 b5) _
  obtain ⟨N, hN1, hN2⟩ := fa4.2.2.2.2.1
  have ce := fa4
  have loop255 : ∀ (ms9 : Nat) (n : Int32) (a255 : Nat → Nat → Int32) (b255 : Nat → Nat → Int64) (o2_255 : Option f_V) (o3_255 : Option f_V) (o4_255 : Option f_V), ((0 : Int)).toNat = ms9 → RM K a255 → FR [0, 2, 3, 11] a a255 → (0 ≤ n.toInt ∧ n.toInt ≤ 24) → (∀ k9 : Nat, k9 < n.toInt.toNat → LN a255 80 k9) → (∀ j, j < 80 → a255 11 j = a 11 j) → ((a255 0 2).toInt = 0) → f_wp (f_code (t_X13_vows (f_ev mtM d))) (255, [some (.inr (.inr (some 0))), some (.inl n), o2_255, o3_255, o4_255], [], mH a255 b255) (fun v9 h' => ∃ (a' : Nat → Nat → Int32) (b' : Nat → Nat → Int64), h' = mH a' b' ∧ RM K a' ∧ (FR [0, 2, 3, 11] a a' ∧ (LNI a' ∧ (a' 0 2).toInt = 0)) ∧ ∃ x : Int32, v9 = some (.inl x) ∧ True) := by
    intro ms9
    induction ms9 using Nat.strongRecOn with
    | _ ms255 ih255 =>
      intro n a255 b255 o2_255 o3_255 o4_255 hm255 hR255 hF255 hn hv hq h02
      refine w_aload rfl rfl ?_
      refine w_getI (v := .inl (a255 0 8)) rfl rfl rfl rfl rfl ?_
      have q6 : 0 ≤ (a255 0 8).toInt ∧ (a255 0 8).toInt ≤ 2147483647 := hR255 0 8
      refine w_if_le rfl (fun c7 => ?_) (fun c7 => ?_)
      · skip
        refine w_aload rfl rfl ?_
        refine w_getR (v := .inr (.inr (some 11))) rfl rfl rfl rfl rfl ?_
        refine w_const rfl ?_
        refine w_iload rfl rfl ?_
        refine m_iast rfl rfl (by omega) (fun a8 ea8 => ?_)
        have ha8 : RM K a8 := RM.up hR255 ea8 (show (0 : Int) ≤ _ ∧ _ ≤ (24 : Int) from by omega)
        have ua8_8 : (a8 0 8).toInt = (a255 0 8).toInt := by rw [ea8, mU_cell (by decide)]
        refine w_const rfl ?_
        refine w_istore (lo' := [some (.inr (.inr (some 0))), some (.inl n), some (.inl 0), o3_255, o4_255]) rfl rfl ?_
        have loop276 : ∀ (ms9 : Nat) (i : Int32) (a276 : Nat → Nat → Int32) (b276 : Nat → Nat → Int64) , (3 * n.toInt - i.toInt).toNat = ms9 → RM K a276 → FR [0, 2, 3, 11] a a276 → (0 ≤ i.toInt ∧ i.toInt ≤ 3 * n.toInt) → (((∀ j, j < i.toInt.toNat → a276 11 (1 + j) = a255 11 (80 + j)) ∧ (∀ j, 80 ≤ j → a276 11 j = a255 11 j) ∧ (a276 11 0).toInt = n.toInt ∧ (a276 0 2).toInt = 0)) → f_wp (f_code (t_X13_vows (f_ev mtM d))) (276, [some (.inr (.inr (some 0))), some (.inl n), some (.inl i), o3_255, o4_255], [], mH a276 b276) (fun v9 h' => ∃ (a' : Nat → Nat → Int32) (b' : Nat → Nat → Int64), h' = mH a' b' ∧ RM K a' ∧ (FR [0, 2, 3, 11] a a' ∧ (LNI a' ∧ (a' 0 2).toInt = 0)) ∧ ∃ x : Int32, v9 = some (.inl x) ∧ True) := by
          intro ms9
          induction ms9 using Nat.strongRecOn with
          | _ ms276 ih276 =>
            intro i a276 b276  hm276 hR276 hF276 hi hS
            refine w_iload rfl rfl ?_
            refine w_const rfl ?_
            refine w_iload rfl rfl ?_
            first | refine w_imul rfl (c := 3) rfl (by omega) (fun x9 tx9 => ?_) | refine w_iiU rfl (fun x9 tx9 => ?_)
            refine w_ic_ge rfl (fun c10 => ?_) (fun c10 => ?_)
            · skip
              refine w_const rfl ?_
              exact wp_iret (z := false) rfl (fun h9 => by cases h9) ⟨a276, b276, rfl, hR276, ⟨hF276, by first | exact ⟨LNI.copy (fun k9 h9 => hv k9 (by omega)) hS.2.2.1 (fun j hj => hS.1 j (by omega)), hS.2.2.2⟩ | exact ⟨hLn.same hR hq, h02⟩⟩, ⟨_, rfl, trivial⟩⟩
            · skip
              refine w_aload rfl rfl ?_
              refine w_getR (v := .inr (.inr (some 11))) rfl rfl rfl rfl rfl ?_
              refine w_const rfl ?_
              refine w_iload rfl rfl ?_
              first | refine w_iadd rfl (by omega) (fun x11 tx11 => ?_) | refine w_iiU rfl (fun x11 tx11 => ?_)
              refine w_aload rfl rfl ?_
              refine w_getR (v := .inr (.inr (some 11))) rfl rfl rfl rfl rfl ?_
              refine w_const rfl ?_
              refine w_iload rfl rfl ?_
              first | refine w_iadd rfl (by omega) (fun x12 tx12 => ?_) | refine w_iiU rfl (fun x12 tx12 => ?_)
              refine m_iald rfl rfl (by omega) (fun x13 ex13 => ?_)
              have v9 : x13 = a255 11 (80 + i.toInt.toNat) := by rw [ex13, show (x12).toInt.toNat = 80 + i.toInt.toNat from by omega, hS.2.1 _ (by omega)]
              have v9r : -1 ≤ x13.toInt ∧ x13.toInt ≤ 5 := by rw [ex13]; exact RM.lin1 hR276 (by omega)
              refine m_iast rfl rfl (by omega) (fun a14 ea14 => ?_)
              have ha14 : RM K a14 := RM.up hR276 ea14 (st_lin (by omega) (by omega))
              have ua14_8 : (a14 0 8).toInt = (a276 0 8).toInt := by rw [ea14, mU_cell (by decide)]
              refine w_iinc (lo' := fun z9 => [some (.inr (.inr (some 0))), some (.inl n), some (.inl z9), o3_255, o4_255]) rfl rfl (fun _ => rfl) (by omega) (fun x15 tx15 => ?_)
              refine w_goto rfl ?_
              exact ih276 (3 * n.toInt - x15.toInt).toNat (by omega) x15 a14 b276 rfl ha14 (FR.up (hF276) (by decide) ea14) (by omega) (⟨fun j hj => by rw [ea14, mU_get]; split; (rename_i h5; rw [v9]; congr 1; omega); (rename_i h5; exact hS.1 j (by omega)), fun j hj => by rw [ea14, mU_slot (by omega)]; exact hS.2.1 j hj, by rw [ea14, mU_slot (by omega)]; exact hS.2.2.1, by rw [ea14, mU_cell (by decide)]; exact hS.2.2.2⟩)
        exact loop276 _ 0 a8 b255 rfl ha8 (FR.up (hF255) (by decide) ea8) (by omega) (⟨fun j hj => absurd hj (by rw [show (0 : Int32).toInt.toNat = 0 from rfl]; omega), fun j hj => by rw [ea8, mU_slot (by rw [show (0 : Int32).toInt.toNat = 0 from rfl]; omega)], by rw [ea8, show (0 : Int32).toInt.toNat = 0 from rfl, mU_same], by rw [ea8, mU_cell (by decide)]; exact h02⟩)
      · skip
        refine w_aload rfl rfl ?_
        refine w_getI (v := .inl (a255 0 8)) rfl rfl rfl rfl rfl ?_
        have q16 : 0 ≤ (a255 0 8).toInt ∧ (a255 0 8).toInt ≤ 2147483647 := hR255 0 8
        exact wp_iret (z := false) rfl (fun h9 => by cases h9) ⟨a255, b255, rfl, hR255, ⟨hF255, by first | exact ⟨LNI.copy (fun k9 h9 => hv k9 (by omega)) hS.2.2.1 (fun j hj => hS.1 j (by omega)), hS.2.2.2⟩ | exact ⟨hLn.same hR hq, h02⟩⟩, ⟨_, rfl, trivial⟩⟩
  refine w_const rfl ?_
  refine w_istore (lo' := [some (.inr (.inr (some 0))), some (.inl 0), none, none, none]) rfl rfl ?_
  have loop11 : ∀ (ms9 : Nat) (n : Int32) (a11 : Nat → Nat → Int32) (b11 : Nat → Nat → Int64) (o2_11 : Option f_V) (o3_11 : Option f_V) (o4_11 : Option f_V), (if (a11 0 8).toInt = 0 then (N : Int) - (a11 0 7).toInt + 1 else 0).toNat = ms9 → RM K a11 → FR [0, 2, 3, 11] a a11 → (N ≤ 1000 ∧ (a11 0 7).toInt ≤ N ∧ (a11 2 N).toInt = 0) → (0 ≤ n.toInt ∧ n.toInt ≤ 24) → (∀ k9 : Nat, k9 < n.toInt.toNat → LN a11 80 k9) → (∀ j, j < 80 → a11 11 j = a 11 j) → ((a11 0 2).toInt = 0) → f_wp (f_code (t_X13_vows (f_ev mtM d))) (11, [some (.inr (.inr (some 0))), some (.inl n), o2_11, o3_11, o4_11], [], mH a11 b11) (fun v9 h' => ∃ (a' : Nat → Nat → Int32) (b' : Nat → Nat → Int64), h' = mH a' b' ∧ RM K a' ∧ (FR [0, 2, 3, 11] a a' ∧ (LNI a' ∧ (a' 0 2).toInt = 0)) ∧ ∃ x : Int32, v9 = some (.inl x) ∧ True) := by
    intro ms9
    induction ms9 using Nat.strongRecOn with
    | _ ms11 ih11 =>
      intro n a11 b11 o2_11 o3_11 o4_11 hm11 hR11 hF11 hT hn hv hq h02
      refine w_aload rfl rfl ?_
      refine w_getI (v := .inl (a11 0 8)) rfl rfl rfl rfl rfl ?_
      have q17 : 0 ≤ (a11 0 8).toInt ∧ (a11 0 8).toInt ≤ 2147483647 := hR11 0 8
      refine w_if_ne rfl (fun c18 => ?_) (fun c18 => ?_)
      · skip
        refine w_aload rfl rfl ?_
        refine w_getR (v := .inr (.inr (some 2))) rfl rfl rfl rfl rfl ?_
        refine w_aload rfl rfl ?_
        refine w_getI (v := .inl (a11 0 7)) rfl rfl rfl rfl rfl ?_
        have q19 : 0 ≤ (a11 0 7).toInt ∧ (a11 0 7).toInt ≤ 1000 := hR11 0 7
        refine m_iald rfl rfl (by omega) (fun x20 ex20 => ?_)
        have qx20 : 0 ≤ x20.toInt ∧ x20.toInt ≤ 4 := by rw [ex20]; exact hR11 2 _
        have e9 := congrArg Int32.toInt ex20
        refine w_if_eq rfl (fun c21 => ?_) (fun c21 => ?_)
        · skip
          exact loop255 _ n a11 b11 o2_11 o3_11 o4_11 rfl hR11 (hF11) (hn) (hv) (hq) (h02)
        · skip
          have y9 : (a11 0 7).toInt < N := TK.lt hT (show (0 : Int) ≤ _ from (hR11 0 7).1) (by omega)
          refine w_aload rfl rfl ?_
          refine w_const rfl ?_
          refine w_const rfl ?_
          refine w_invV (rest := []) rfl rfl rfl rfl rfl (Nat.le_of_ble_eq_true rfl) rfl (by omega) (s_wordHere (K := K) a11 b11  16 3 hR11 (by omega)) (fun v22 h9 hq23 => ?_)
          obtain ⟨rfl, x24, rfl, px24⟩ := hq23
          show f_wp _ (37, [some (.inr (.inr (some 0))), some (.inl n), o2_11, o3_11, o4_11], [.inl x24], mH a11 b11) _
          have w9 := px24
          refine w_istore (lo' := [some (.inr (.inr (some 0))), some (.inl n), some (.inl x24), o3_11, o4_11]) rfl rfl ?_
          have loop82 : ∀ (ms9 : Nat) (ac : Int32) (a82 : Nat → Nat → Int32) (b82 : Nat → Nat → Int64) , ((0 : Int)).toNat = ms9 → RM K a82 → FR [0, 2, 3, 11] a a82 → (RK N a11 a82) → ((a82 0 8).toInt = 0 → 0 ≤ ac.toInt ∧ ac.toInt ≤ 2 ∧ n.toInt < 24) → (a82 11 = a11 11) → f_wp (f_code (t_X13_vows (f_ev mtM d))) (82, [some (.inr (.inr (some 0))), some (.inl n), some (.inl ac), o3_11, o4_11], [], mH a82 b82) (fun v9 h' => ∃ (a' : Nat → Nat → Int32) (b' : Nat → Nat → Int64), h' = mH a' b' ∧ RM K a' ∧ (FR [0, 2, 3, 11] a a' ∧ (LNI a' ∧ (a' 0 2).toInt = 0)) ∧ ∃ x : Int32, v9 = some (.inl x) ∧ True) := by
            intro ms9
            induction ms9 using Nat.strongRecOn with
            | _ ms82 ih82 =>
              intro ac a82 b82  hm82 hR82 hF82 hr82 hx82 h1182
              have loop104 : ∀ (ms9 : Nat) (w : Int32) (a104 : Nat → Nat → Int32) (b104 : Nat → Nat → Int64) , ((0 : Int)).toNat = ms9 → RM K a104 → FR [0, 2, 3, 11] a a104 → (RK N a11 a104) → ((a104 0 8).toInt = 0 → 0 ≤ ac.toInt ∧ ac.toInt ≤ 2 ∧ n.toInt < 24) → ((a104 0 8).toInt = 0 → 2 ≤ ac.toInt ∨ (0 ≤ w.toInt ∧ w.toInt ≤ 5)) → (-1 ≤ w.toInt ∧ w.toInt ≤ 5) → ((a104 0 8).toInt = 0 → ac.toInt < 2 → (a104 0 7).toInt < N) → (a104 11 = a11 11) → f_wp (f_code (t_X13_vows (f_ev mtM d))) (104, [some (.inr (.inr (some 0))), some (.inl n), some (.inl ac), some (.inl w), o4_11], [], mH a104 b104) (fun v9 h' => ∃ (a' : Nat → Nat → Int32) (b' : Nat → Nat → Int64), h' = mH a' b' ∧ RM K a' ∧ (FR [0, 2, 3, 11] a a' ∧ (LNI a' ∧ (a' 0 2).toInt = 0)) ∧ ∃ x : Int32, v9 = some (.inl x) ∧ True) := by
                intro ms9
                induction ms9 using Nat.strongRecOn with
                | _ ms104 ih104 =>
                  intro w a104 b104  hm104 hR104 hF104 hr104 hx104 hw104 hw5104 ht104 h11104
                  clear hr82 hx82 h1182
                  have loop130 : ∀ (ms9 : Nat)  (a130 : Nat → Nat → Int32) (b130 : Nat → Nat → Int64) , ((0 : Int)).toNat = ms9 → RM K a130 → FR [0, 2, 3, 11] a a130 → (RK N a11 a130) → ((a130 0 8).toInt = 0 → 0 ≤ ac.toInt ∧ ac.toInt ≤ 2 ∧ n.toInt < 24) → ((a130 0 8).toInt = 0 → 2 ≤ ac.toInt ∨ (0 ≤ w.toInt ∧ w.toInt ≤ 5)) → (-1 ≤ w.toInt ∧ w.toInt ≤ 5) → (a130 11 = a11 11) → f_wp (f_code (t_X13_vows (f_ev mtM d))) (130, [some (.inr (.inr (some 0))), some (.inl n), some (.inl ac), some (.inl w), o4_11], [], mH a130 b130) (fun v9 h' => ∃ (a' : Nat → Nat → Int32) (b' : Nat → Nat → Int64), h' = mH a' b' ∧ RM K a' ∧ (FR [0, 2, 3, 11] a a' ∧ (LNI a' ∧ (a' 0 2).toInt = 0)) ∧ ∃ x : Int32, v9 = some (.inl x) ∧ True) := by
                    intro ms9
                    induction ms9 using Nat.strongRecOn with
                    | _ ms130 ih130 =>
                      intro  a130 b130  hm130 hR130 hF130 hr130 hx130 hw130 hw5130 h11130
                      clear hr104 hx104 hw104 hw5104 ht104 h11104
                      have loop152 : ∀ (ms9 : Nat) (h : Int32) (a152 : Nat → Nat → Int32) (b152 : Nat → Nat → Int64) , ((0 : Int)).toNat = ms9 → RM K a152 → FR [0, 2, 3, 11] a a152 → (RK N a11 a152) → ((a152 0 8).toInt = 0 → 0 ≤ ac.toInt ∧ ac.toInt ≤ 2 ∧ n.toInt < 24) → ((a152 0 8).toInt = 0 → 2 ≤ ac.toInt ∨ (0 ≤ w.toInt ∧ w.toInt ≤ 5)) → (-1 ≤ w.toInt ∧ w.toInt ≤ 5) → ((a152 0 8).toInt = 0 → ¬ ac.toInt = 0 ∨ (0 ≤ h.toInt ∧ h.toInt ≤ 5)) → (-1 ≤ h.toInt ∧ h.toInt ≤ 5) → ((a152 0 8).toInt = 0 → ac.toInt = 0 → (a152 0 7).toInt < N) → (a152 11 = a11 11) → f_wp (f_code (t_X13_vows (f_ev mtM d))) (152, [some (.inr (.inr (some 0))), some (.inl n), some (.inl ac), some (.inl w), some (.inl h)], [], mH a152 b152) (fun v9 h' => ∃ (a' : Nat → Nat → Int32) (b' : Nat → Nat → Int64), h' = mH a' b' ∧ RM K a' ∧ (FR [0, 2, 3, 11] a a' ∧ (LNI a' ∧ (a' 0 2).toInt = 0)) ∧ ∃ x : Int32, v9 = some (.inl x) ∧ True) := by
                        intro ms9
                        induction ms9 using Nat.strongRecOn with
                        | _ ms152 ih152 =>
                          intro h a152 b152  hm152 hR152 hF152 hr152 hx152 hw152 hw5152 hh152 hh5152 ht152 h11152
                          clear hr130 hx130 hw130 hw5130 h11130
                          have loop174 : ∀ (ms9 : Nat)  (a174 : Nat → Nat → Int32) (b174 : Nat → Nat → Int64) , ((0 : Int)).toNat = ms9 → RM K a174 → FR [0, 2, 3, 11] a a174 → (RK N a11 a174) → ((a174 0 8).toInt = 0 → 0 ≤ ac.toInt ∧ ac.toInt ≤ 2 ∧ n.toInt < 24) → ((a174 0 8).toInt = 0 → 2 ≤ ac.toInt ∨ (0 ≤ w.toInt ∧ w.toInt ≤ 5)) → (-1 ≤ w.toInt ∧ w.toInt ≤ 5) → ((a174 0 8).toInt = 0 → ¬ ac.toInt = 0 ∨ (0 ≤ h.toInt ∧ h.toInt ≤ 5)) → (-1 ≤ h.toInt ∧ h.toInt ≤ 5) → ((a174 0 8).toInt = 0 → ac.toInt = 0 → (a174 0 7).toInt < N) → (a174 11 = a11 11) → f_wp (f_code (t_X13_vows (f_ev mtM d))) (174, [some (.inr (.inr (some 0))), some (.inl n), some (.inl ac), some (.inl w), some (.inl h)], [], mH a174 b174) (fun v9 h' => ∃ (a' : Nat → Nat → Int32) (b' : Nat → Nat → Int64), h' = mH a' b' ∧ RM K a' ∧ (FR [0, 2, 3, 11] a a' ∧ (LNI a' ∧ (a' 0 2).toInt = 0)) ∧ ∃ x : Int32, v9 = some (.inl x) ∧ True) := by
                            intro ms9
                            induction ms9 using Nat.strongRecOn with
                            | _ ms174 ih174 =>
                              intro  a174 b174  hm174 hR174 hF174 hr174 hx174 hw174 hw5174 hh174 hh5174 ht174 h11174
                              clear hr152 hx152 hw152 hw5152 hh152 hh5152 ht152 h11152
                              have loop199 : ∀ (ms9 : Nat)  (a199 : Nat → Nat → Int32) (b199 : Nat → Nat → Int64) , ((0 : Int)).toNat = ms9 → RM K a199 → FR [0, 2, 3, 11] a a199 → (RK N a11 a199) → ((a199 0 8).toInt = 0 → 0 ≤ ac.toInt ∧ ac.toInt ≤ 2 ∧ n.toInt < 24) → ((a199 0 8).toInt = 0 → 2 ≤ ac.toInt ∨ (0 ≤ w.toInt ∧ w.toInt ≤ 5)) → (-1 ≤ w.toInt ∧ w.toInt ≤ 5) → ((a199 0 8).toInt = 0 → ¬ ac.toInt = 0 ∨ (0 ≤ h.toInt ∧ h.toInt ≤ 5)) → (-1 ≤ h.toInt ∧ h.toInt ≤ 5) → (a199 11 = a11 11) → f_wp (f_code (t_X13_vows (f_ev mtM d))) (199, [some (.inr (.inr (some 0))), some (.inl n), some (.inl ac), some (.inl w), some (.inl h)], [], mH a199 b199) (fun v9 h' => ∃ (a' : Nat → Nat → Int32) (b' : Nat → Nat → Int64), h' = mH a' b' ∧ RM K a' ∧ (FR [0, 2, 3, 11] a a' ∧ (LNI a' ∧ (a' 0 2).toInt = 0)) ∧ ∃ x : Int32, v9 = some (.inl x) ∧ True) := by
                                intro ms9
                                induction ms9 using Nat.strongRecOn with
                                | _ ms199 ih199 =>
                                  intro  a199 b199  hm199 hR199 hF199 hr199 hx199 hw199 hw5199 hh199 hh5199 h11199
                                  clear hr174 hx174 hw174 hw5174 hh174 hh5174 ht174 h11174
                                  have loop246 : ∀ (ms9 : Nat) (n1 : Int32) (a246 : Nat → Nat → Int32) (b246 : Nat → Nat → Int64) , ((0 : Int)).toNat = ms9 → RM K a246 → FR [0, 2, 3, 11] a a246 → (N ≤ 1000 ∧ (a246 0 7).toInt ≤ N ∧ (a246 2 N).toInt = 0) → ((a11 0 7).toInt ≤ (a246 0 7).toInt) → (0 ≤ n1.toInt ∧ n1.toInt ≤ 24) → (∀ k9 : Nat, k9 < n1.toInt.toNat → LN a246 80 k9) → (∀ j, j < 80 → a246 11 j = a 11 j) → ((a246 0 2).toInt = 0) → f_wp (f_code (t_X13_vows (f_ev mtM d))) (246, [some (.inr (.inr (some 0))), some (.inl n1), some (.inl ac), some (.inl w), some (.inl h)], [], mH a246 b246) (fun v9 h' => ∃ (a' : Nat → Nat → Int32) (b' : Nat → Nat → Int64), h' = mH a' b' ∧ RM K a' ∧ (FR [0, 2, 3, 11] a a' ∧ (LNI a' ∧ (a' 0 2).toInt = 0)) ∧ ∃ x : Int32, v9 = some (.inl x) ∧ True) := by
                                    intro ms9
                                    induction ms9 using Nat.strongRecOn with
                                    | _ ms246 ih246 =>
                                      intro n1 a246 b246  hm246 hR246 hF246 hT6246 hg6246 hn6246 hv6246 hq6246 h026246
                                      clear hr199 hx199 hw199 hw5199 hh199 hh5199 h11199
                                      refine w_aload rfl rfl ?_
                                      refine w_const rfl ?_
                                      refine w_invV (rest := []) rfl rfl rfl rfl rfl (Nat.le_of_ble_eq_true rfl) rfl (by omega) (s_takeSign (K := K) a246 b246 N 59 hR246 (hT6246)) (fun v25 h9 hq26 => ?_)
                                      obtain ⟨a27, rfl, ha27, fa27, rfl⟩ := hq26
                                      show f_wp _ (252, [some (.inr (.inr (some 0))), some (.inl n1), some (.inl ac), some (.inl w), some (.inl h)], [], mH a27 b246) _
                                      have o8 := fa27.2.2
                                      have j2 := fa27.2.1.2.2
                                      refine w_goto rfl ?_
                                      exact ih11 (if (a27 0 8).toInt = 0 then (N : Int) - (a27 0 7).toInt + 1 else 0).toNat (by rw [if_pos (by omega)] at hm11; split <;> omega) n1 a27 b246 (some (.inl ac)) (some (.inl w)) (some (.inl h)) rfl ha27 (FR.tr (hF246) (FR.sub fa27.1 (by decide))) (⟨hT.1, fa27.2.1.2.2, by rw [fa27.1 2 (by decide)]; exact hT6246.2.2⟩) (by omega) (fun k9 h9 => by unfold LN; rw [fa27.1 11 (by decide)]; exact hv6246 k9 h9) (fun j hj => by rw [fa27.1 11 (by decide)]; exact hq6246 j hj) (by rw [fa27.2.1.1 2 (by decide) (by decide)]; exact h026246)
                                  refine w_aload rfl rfl ?_
                                  refine w_getI (v := .inl (a199 0 8)) rfl rfl rfl rfl rfl ?_
                                  have q28 : 0 ≤ (a199 0 8).toInt ∧ (a199 0 8).toInt ≤ 2147483647 := hR199 0 8
                                  refine w_if_ne rfl (fun c29 => ?_) (fun c29 => ?_)
                                  · skip
                                    refine w_aload rfl rfl ?_
                                    refine w_getR (v := .inr (.inr (some 11))) rfl rfl rfl rfl rfl ?_
                                    refine w_const rfl ?_
                                    refine w_const rfl ?_
                                    refine w_iload rfl rfl ?_
                                    first | refine w_imul rfl (c := 3) rfl (by omega) (fun x30 tx30 => ?_) | refine w_iiU rfl (fun x30 tx30 => ?_)
                                    first | refine w_iadd rfl (by omega) (fun x31 tx31 => ?_) | refine w_iiU rfl (fun x31 tx31 => ?_)
                                    refine w_iload rfl rfl ?_
                                    refine m_iast rfl rfl (by omega) (fun a32 ea32 => ?_)
                                    have ha32 : RM K a32 := RM.up hR199 ea32 (st_lin (by omega) (by omega))
                                    have ua32_7 : (a32 0 7).toInt = (a199 0 7).toInt := by rw [ea32, mU_cell (by decide)]
                                    have ua32_8 : (a32 0 8).toInt = (a199 0 8).toInt := by rw [ea32, mU_cell (by decide)]
                                    refine w_aload rfl rfl ?_
                                    refine w_getR (v := .inr (.inr (some 11))) rfl rfl rfl rfl rfl ?_
                                    refine w_const rfl ?_
                                    refine w_const rfl ?_
                                    refine w_iload rfl rfl ?_
                                    first | refine w_imul rfl (c := 3) rfl (by omega) (fun x33 tx33 => ?_) | refine w_iiU rfl (fun x33 tx33 => ?_)
                                    first | refine w_iadd rfl (by omega) (fun x34 tx34 => ?_) | refine w_iiU rfl (fun x34 tx34 => ?_)
                                    refine w_iload rfl rfl ?_
                                    refine m_iast rfl rfl (by omega) (fun a35 ea35 => ?_)
                                    have ha35 : RM K a35 := RM.up ha32 ea35 (st_lin (by omega) (by omega))
                                    have ua35_7 : (a35 0 7).toInt = (a32 0 7).toInt := by rw [ea35, mU_cell (by decide)]
                                    have ua35_8 : (a35 0 8).toInt = (a32 0 8).toInt := by rw [ea35, mU_cell (by decide)]
                                    refine w_aload rfl rfl ?_
                                    refine w_getR (v := .inr (.inr (some 11))) rfl rfl rfl rfl rfl ?_
                                    refine w_const rfl ?_
                                    refine w_const rfl ?_
                                    refine w_iload rfl rfl ?_
                                    first | refine w_imul rfl (c := 3) rfl (by omega) (fun x36 tx36 => ?_) | refine w_iiU rfl (fun x36 tx36 => ?_)
                                    first | refine w_iadd rfl (by omega) (fun x37 tx37 => ?_) | refine w_iiU rfl (fun x37 tx37 => ?_)
                                    refine w_iload rfl rfl ?_
                                    refine m_iast rfl rfl (by omega) (fun a38 ea38 => ?_)
                                    have ha38 : RM K a38 := RM.up ha35 ea38 (st_lin (by omega) (by omega))
                                    have ua38_7 : (a38 0 7).toInt = (a35 0 7).toInt := by rw [ea38, mU_cell (by decide)]
                                    have ua38_8 : (a38 0 8).toInt = (a35 0 8).toInt := by rw [ea38, mU_cell (by decide)]
                                    have i0 : x31.toInt.toNat = 80 + 3 * n.toInt.toNat := by omega
                                    have i1 : x34.toInt.toNat = 81 + 3 * n.toInt.toNat := by omega
                                    have i2 : (x37).toInt.toNat = 82 + 3 * n.toInt.toNat := by omega
                                    have vN0 := LN.up (n := n.toInt.toNat) (a := a11) (a' := a38) (x := ac) (y := w) (z := h) (fun j hj => by rw [ea38, mU_slot (by omega), ea35, mU_slot (by omega), ea32, mU_slot (by omega), h11199]) (by rw [ea38, mU_slot (by omega), ea35, mU_slot (by omega), ea32, i0, mU_same]) (by rw [ea38, mU_slot (by omega), ea35, i1, mU_same]) (by rw [ea38, i2, mU_same]) hv (by omega)
                                    refine w_iinc (lo' := fun z9 => [some (.inr (.inr (some 0))), some (.inl z9), some (.inl ac), some (.inl w), some (.inl h)]) rfl rfl (fun _ => rfl) (by omega) (fun x39 tx39 => ?_)
                                    have vN : ∀ k9 : Nat, k9 < x39.toInt.toNat → LN a38 80 k9 := fun k9 h9 => vN0 k9 (by omega)
                                    exact loop246 _ x39 a38 b199 rfl ha38 (FR.up (FR.up (FR.up (hF199) (by decide) ea32) (by decide) ea35) (by decide) ea38) (⟨hT.1, by rw [ea38, mU_cell (by decide), ea35, mU_cell (by decide), ea32, mU_cell (by decide)]; exact hr199.1, by rw [ea38, mU_cell (by decide), ea35, mU_cell (by decide), ea32, mU_cell (by decide)]; exact hr199.2.1⟩) (by rw [ea38, mU_cell (by decide), ea35, mU_cell (by decide), ea32, mU_cell (by decide)]; exact hr199.2.2.1) (by omega) (vN) (fun j hj => by rw [ea38, mU_slot (by omega), ea35, mU_slot (by omega), ea32, mU_slot (by omega), h11199]; exact hq j hj) (by rw [ea38, mU_cell (by decide), ea35, mU_cell (by decide), ea32, mU_cell (by decide), hr199.2.2.2.1 2 (by decide) (by decide)]; exact h02)
                                  · skip
                                    exact loop246 _ n a199 b199 rfl hR199 (hF199) (hr199.T hT.1) (hr199.2.2.1) (by omega) (fun k9 h9 => by unfold LN; rw [h11199]; exact hv k9 h9) (fun j hj => by rw [h11199]; exact hq j hj) (by rw [hr199.2.2.2.1 2 (by decide) (by decide)]; exact h02)
                              refine w_aload rfl rfl ?_
                              refine w_dup rfl rfl ?_
                              refine w_getI (v := .inl (a174 0 7)) rfl rfl rfl rfl rfl ?_
                              have q40 : 0 ≤ (a174 0 7).toInt ∧ (a174 0 7).toInt ≤ 1000 := hR174 0 7
                              have h79 := hr174.2.2.1
                              have h78 := hr174.1
                              refine w_aload rfl rfl ?_
                              refine w_getI (v := .inl (a174 0 8)) rfl rfl rfl rfl rfl ?_
                              have q41 : 0 ≤ (a174 0 8).toInt ∧ (a174 0 8).toInt ≤ 2147483647 := hR174 0 8
                              refine w_if_ne rfl (fun c42 => ?_) (fun c42 => ?_)
                              · skip
                                refine w_iload rfl rfl ?_
                                refine w_if_ne rfl (fun c43 => ?_) (fun c43 => ?_)
                                · skip
                                  refine w_const rfl ?_
                                  refine w_goto rfl ?_
                                  first | refine w_iadd rfl (by omega) (fun x44 tx44 => ?_) | refine w_iiU rfl (fun x44 tx44 => ?_)
                                  refine m_putI (z := false) rfl rfl rfl rfl (by first | (intro h9; cases h9; done) | (intro _; first | exact Or.inl rfl | exact Or.inr rfl | assumption)) (fun a45 ea45 => ?_)
                                  have ha45 : RM K a45 := RM.up hR174 ea45 (show (0 : Int) ≤ _ ∧ _ ≤ (1000 : Int) from by omega)
                                  have ua45_7 : a45 0 7 = x44 := by rw [ea45, mU_same]
                                  have wa45_7 := congrArg Int32.toInt ua45_7
                                  have ua45_8 : (a45 0 8).toInt = (a174 0 8).toInt := by rw [ea45, mU_slot (by decide)]
                                  have r4 := hr174.up ea45 (by omega)
                                  have v8 : (a45 0 8).toInt = (a174 0 8).toInt := by rw [ea45, mU_slot (by decide)]
                                  exact loop199 _ a45 b174 rfl ha45 (FR.up (hF174) (by decide) ea45) (r4) (fun z => hx174 (by omega)) (fun z => hw174 (by omega)) (hw5174) (fun z => hh174 (by omega)) (hh5174) (by rw [ea45, mU_cell (by decide)]; exact h11174)
                                · skip
                                  refine w_const rfl ?_
                                  first | refine w_iadd rfl (by omega) (fun x46 tx46 => ?_) | refine w_iiU rfl (fun x46 tx46 => ?_)
                                  refine m_putI (z := false) rfl rfl rfl rfl (by first | (intro h9; cases h9; done) | (intro _; first | exact Or.inl rfl | exact Or.inr rfl | assumption)) (fun a47 ea47 => ?_)
                                  have ha47 : RM K a47 := RM.up hR174 ea47 (show (0 : Int) ≤ _ ∧ _ ≤ (1000 : Int) from by omega)
                                  have ua47_7 : a47 0 7 = x46 := by rw [ea47, mU_same]
                                  have wa47_7 := congrArg Int32.toInt ua47_7
                                  have ua47_8 : (a47 0 8).toInt = (a174 0 8).toInt := by rw [ea47, mU_slot (by decide)]
                                  have r4 := hr174.up ea47 (by omega)
                                  have v8 : (a47 0 8).toInt = (a174 0 8).toInt := by rw [ea47, mU_slot (by decide)]
                                  exact loop199 _ a47 b174 rfl ha47 (FR.up (hF174) (by decide) ea47) (r4) (fun z => hx174 (by omega)) (fun z => hw174 (by omega)) (hw5174) (fun z => hh174 (by omega)) (hh5174) (by rw [ea47, mU_cell (by decide)]; exact h11174)
                              · skip
                                refine w_const rfl ?_
                                first | refine w_iadd rfl (by omega) (fun x48 tx48 => ?_) | refine w_iiU rfl (fun x48 tx48 => ?_)
                                refine m_putI (z := false) rfl rfl rfl rfl (by first | (intro h9; cases h9; done) | (intro _; first | exact Or.inl rfl | exact Or.inr rfl | assumption)) (fun a49 ea49 => ?_)
                                have ha49 : RM K a49 := RM.up hR174 ea49 (show (0 : Int) ≤ _ ∧ _ ≤ (1000 : Int) from by omega)
                                have ua49_7 : a49 0 7 = x48 := by rw [ea49, mU_same]
                                have wa49_7 := congrArg Int32.toInt ua49_7
                                have ua49_8 : (a49 0 8).toInt = (a174 0 8).toInt := by rw [ea49, mU_slot (by decide)]
                                have r4 := hr174.up ea49 (by omega)
                                have v8 : (a49 0 8).toInt = (a174 0 8).toInt := by rw [ea49, mU_slot (by decide)]
                                exact loop199 _ a49 b174 rfl ha49 (FR.up (hF174) (by decide) ea49) (r4) (fun z => hx174 (by omega)) (fun z => hw174 (by omega)) (hw5174) (fun z => hh174 (by omega)) (hh5174) (by rw [ea49, mU_cell (by decide)]; exact h11174)
                          refine w_aload rfl rfl ?_
                          refine w_getI (v := .inl (a152 0 8)) rfl rfl rfl rfl rfl ?_
                          have q50 : 0 ≤ (a152 0 8).toInt ∧ (a152 0 8).toInt ≤ 2147483647 := hR152 0 8
                          refine w_if_ne rfl (fun c51 => ?_) (fun c51 => ?_)
                          · skip
                            refine w_iload rfl rfl ?_
                            refine w_if_ne rfl (fun c52 => ?_) (fun c52 => ?_)
                            · skip
                              refine w_iload rfl rfl ?_
                              refine w_iload rfl rfl ?_
                              refine w_ic_ne rfl (fun c53 => ?_) (fun c53 => ?_)
                              · skip
                                refine w_aload rfl rfl ?_
                                refine w_const rfl ?_
                                refine w_invV (rest := []) rfl rfl rfl rfl rfl (Nat.le_of_ble_eq_true rfl) rfl (by omega) (s_wrong (K := K) a152 b152  3 hR152 (by omega)) (fun v54 h9 hq55 => ?_)
                                obtain ⟨a56, rfl, ha56, fa56, rfl⟩ := hq55
                                show f_wp _ (174, [some (.inr (.inr (some 0))), some (.inl n), some (.inl ac), some (.inl w), some (.inl h)], [], mH a56 b152) _
                                have rC := hr152.bad fa56.1 fa56.2.1 (fun z => by have o9 := fa56.2.2; omega)
                                have wg := fa56.2.2
                                exact loop174 _ a56 b152 rfl ha56 (FR.tr (hF152) (FR.sub fa56.1 (by decide))) (by first | exact rC | exact hr152) (fun z => absurd z (by omega)) (fun z => absurd z (by omega)) (hw5152) (fun z => absurd z (by omega)) (hh5152) (fun z => absurd z (by omega)) (by rw [fa56.1 11 (by decide)]; exact h11152)
                              · skip
                                exact loop174 _ a152 b152 rfl hR152 (hF152) (by first | exact rC | exact hr152) (hx152) (hw152) (hw5152) (hh152) (hh5152) (ht152) (h11152)
                            · skip
                              exact loop174 _ a152 b152 rfl hR152 (hF152) (by first | exact rC | exact hr152) (hx152) (hw152) (hw5152) (hh152) (hh5152) (ht152) (h11152)
                          · skip
                            exact loop174 _ a152 b152 rfl hR152 (hF152) (by first | exact rC | exact hr152) (hx152) (hw152) (hw5152) (hh152) (hh5152) (ht152) (h11152)
                      refine w_aload rfl rfl ?_
                      refine w_getI (v := .inl (a130 0 8)) rfl rfl rfl rfl rfl ?_
                      have q57 : 0 ≤ (a130 0 8).toInt ∧ (a130 0 8).toInt ≤ 2147483647 := hR130 0 8
                      refine w_if_ne rfl (fun c58 => ?_) (fun c58 => ?_)
                      · skip
                        refine w_iload rfl rfl ?_
                        refine w_if_ne rfl (fun c59 => ?_) (fun c59 => ?_)
                        · skip
                          refine w_aload rfl rfl ?_
                          refine w_const rfl ?_
                          refine w_invV (rest := []) rfl rfl rfl rfl rfl (Nat.le_of_ble_eq_true rfl) rfl (by omega) (s_riverHere (K := K) a130 b130  0 hR130 (by omega)) (fun v60 h9 hq61 => ?_)
                          obtain ⟨a62, rfl, ha62, fa62, x63, rfl, px63⟩ := hq61
                          show f_wp _ (146, [some (.inr (.inr (some 0))), some (.inl n), some (.inl ac), some (.inl w), o4_11], [.inl x63], mH a62 b130) _
                          have rB := hr130.bad fa62.1 fa62.2 (fun z => by have o9 := px63; omega)
                          have rBt := px63
                          have tl9 : (a62 0 8).toInt = 0 → (a62 0 7).toInt < N := fun z => by have p9 := px63.resolve_right (by omega); rw [fa62.2 7 (by decide)]; exact TK.lt (hr130.T hT.1) (by have z9 : (0 : Int) ≤ (a62 0 7).toInt := (ha62 0 7).1; rw [fa62.2 7 (by decide)] at z9; exact z9) (by omega)
                          refine w_goto rfl ?_
                          refine w_istore (lo' := [some (.inr (.inr (some 0))), some (.inl n), some (.inl ac), some (.inl w), some (.inl x63)]) rfl rfl ?_
                          exact loop152 _ x63 a62 b130 rfl ha62 (FR.tr (hF130) (FR.sub fa62.1 (by decide))) (by first | exact rB | exact hr130) (fun z => hx130 (by omega)) (fun z => hw130 (by omega)) (hw5130) (fun z => by omega) (by omega) (by first | exact (fun z _ => tl9 z) | exact (fun z y => absurd z (by omega)) | exact (fun z y => absurd y (by omega))) (by rw [fa62.1 11 (by decide)]; exact h11130)
                        · skip
                          refine w_const rfl ?_
                          refine w_istore (lo' := [some (.inr (.inr (some 0))), some (.inl n), some (.inl ac), some (.inl w), some (.inl (-1))]) rfl rfl ?_
                          exact loop152 _ (-1) a130 b130 rfl hR130 (hF130) (by first | exact rB | exact hr130) (hx130) (hw130) (hw5130) (fun z => by omega) (by omega) (by first | exact (fun z _ => tl9 z) | exact (fun z y => absurd z (by omega)) | exact (fun z y => absurd y (by omega))) (h11130)
                      · skip
                        refine w_const rfl ?_
                        refine w_istore (lo' := [some (.inr (.inr (some 0))), some (.inl n), some (.inl ac), some (.inl w), some (.inl (-1))]) rfl rfl ?_
                        exact loop152 _ (-1) a130 b130 rfl hR130 (hF130) (by first | exact rB | exact hr130) (hx130) (hw130) (hw5130) (fun z => by omega) (by omega) (by first | exact (fun z _ => tl9 z) | exact (fun z y => absurd z (by omega)) | exact (fun z y => absurd y (by omega))) (h11130)
                  refine w_aload rfl rfl ?_
                  refine w_dup rfl rfl ?_
                  refine w_getI (v := .inl (a104 0 7)) rfl rfl rfl rfl rfl ?_
                  have q64 : 0 ≤ (a104 0 7).toInt ∧ (a104 0 7).toInt ≤ 1000 := hR104 0 7
                  have h79 := hr104.2.2.1
                  have h78 := hr104.1
                  refine w_aload rfl rfl ?_
                  refine w_getI (v := .inl (a104 0 8)) rfl rfl rfl rfl rfl ?_
                  have q65 : 0 ≤ (a104 0 8).toInt ∧ (a104 0 8).toInt ≤ 2147483647 := hR104 0 8
                  refine w_if_ne rfl (fun c66 => ?_) (fun c66 => ?_)
                  · skip
                    refine w_iload rfl rfl ?_
                    refine w_const rfl ?_
                    refine w_ic_ge rfl (fun c67 => ?_) (fun c67 => ?_)
                    · skip
                      refine w_const rfl ?_
                      first | refine w_iadd rfl (by omega) (fun x68 tx68 => ?_) | refine w_iiU rfl (fun x68 tx68 => ?_)
                      refine m_putI (z := false) rfl rfl rfl rfl (by first | (intro h9; cases h9; done) | (intro _; first | exact Or.inl rfl | exact Or.inr rfl | assumption)) (fun a69 ea69 => ?_)
                      have ha69 : RM K a69 := RM.up hR104 ea69 (show (0 : Int) ≤ _ ∧ _ ≤ (1000 : Int) from by omega)
                      have ua69_7 : a69 0 7 = x68 := by rw [ea69, mU_same]
                      have wa69_7 := congrArg Int32.toInt ua69_7
                      have ua69_8 : (a69 0 8).toInt = (a104 0 8).toInt := by rw [ea69, mU_slot (by decide)]
                      have r2 := hr104.up ea69 (by omega)
                      have v8 : (a69 0 8).toInt = (a104 0 8).toInt := by rw [ea69, mU_slot (by decide)]
                      exact loop130 _ a69 b104 rfl ha69 (FR.up (hF104) (by decide) ea69) (r2) (fun z => hx104 (by omega)) (fun z => hw104 (by omega)) (hw5104) (by rw [ea69, mU_cell (by decide)]; exact h11104)
                    · skip
                      refine w_const rfl ?_
                      refine w_goto rfl ?_
                      first | refine w_iadd rfl (by omega) (fun x70 tx70 => ?_) | refine w_iiU rfl (fun x70 tx70 => ?_)
                      refine m_putI (z := false) rfl rfl rfl rfl (by first | (intro h9; cases h9; done) | (intro _; first | exact Or.inl rfl | exact Or.inr rfl | assumption)) (fun a71 ea71 => ?_)
                      have ha71 : RM K a71 := RM.up hR104 ea71 (show (0 : Int) ≤ _ ∧ _ ≤ (1000 : Int) from by omega)
                      have ua71_7 : a71 0 7 = x70 := by rw [ea71, mU_same]
                      have wa71_7 := congrArg Int32.toInt ua71_7
                      have ua71_8 : (a71 0 8).toInt = (a104 0 8).toInt := by rw [ea71, mU_slot (by decide)]
                      have r2 := hr104.up ea71 (by omega)
                      have v8 : (a71 0 8).toInt = (a104 0 8).toInt := by rw [ea71, mU_slot (by decide)]
                      exact loop130 _ a71 b104 rfl ha71 (FR.up (hF104) (by decide) ea71) (r2) (fun z => hx104 (by omega)) (fun z => hw104 (by omega)) (hw5104) (by rw [ea71, mU_cell (by decide)]; exact h11104)
                  · skip
                    refine w_const rfl ?_
                    first | refine w_iadd rfl (by omega) (fun x72 tx72 => ?_) | refine w_iiU rfl (fun x72 tx72 => ?_)
                    refine m_putI (z := false) rfl rfl rfl rfl (by first | (intro h9; cases h9; done) | (intro _; first | exact Or.inl rfl | exact Or.inr rfl | assumption)) (fun a73 ea73 => ?_)
                    have ha73 : RM K a73 := RM.up hR104 ea73 (show (0 : Int) ≤ _ ∧ _ ≤ (1000 : Int) from by omega)
                    have ua73_7 : a73 0 7 = x72 := by rw [ea73, mU_same]
                    have wa73_7 := congrArg Int32.toInt ua73_7
                    have ua73_8 : (a73 0 8).toInt = (a104 0 8).toInt := by rw [ea73, mU_slot (by decide)]
                    have r2 := hr104.up ea73 (by omega)
                    have v8 : (a73 0 8).toInt = (a104 0 8).toInt := by rw [ea73, mU_slot (by decide)]
                    exact loop130 _ a73 b104 rfl ha73 (FR.up (hF104) (by decide) ea73) (r2) (fun z => hx104 (by omega)) (fun z => hw104 (by omega)) (hw5104) (by rw [ea73, mU_cell (by decide)]; exact h11104)
              refine w_aload rfl rfl ?_
              refine w_getI (v := .inl (a82 0 8)) rfl rfl rfl rfl rfl ?_
              have q74 : 0 ≤ (a82 0 8).toInt ∧ (a82 0 8).toInt ≤ 2147483647 := hR82 0 8
              refine w_if_ne rfl (fun c75 => ?_) (fun c75 => ?_)
              · skip
                refine w_iload rfl rfl ?_
                refine w_const rfl ?_
                refine w_ic_ge rfl (fun c76 => ?_) (fun c76 => ?_)
                · skip
                  refine w_const rfl ?_
                  refine w_istore (lo' := [some (.inr (.inr (some 0))), some (.inl n), some (.inl ac), some (.inl (-1)), o4_11]) rfl rfl ?_
                  exact loop104 _ (-1) a82 b82 rfl hR82 (hF82) (by first | exact rA | exact hr82) (hx82) (fun z => by omega) (by omega) (by first | exact (fun z _ => tl9 z) | exact (fun z y => absurd z (by omega)) | exact (fun z y => absurd y (by omega))) (h1182)
                · skip
                  refine w_aload rfl rfl ?_
                  refine w_const rfl ?_
                  refine w_invV (rest := []) rfl rfl rfl rfl rfl (Nat.le_of_ble_eq_true rfl) rfl (by omega) (s_riverHere (K := K) a82 b82  0 hR82 (by omega)) (fun v77 h9 hq78 => ?_)
                  obtain ⟨a79, rfl, ha79, fa79, x80, rfl, px80⟩ := hq78
                  show f_wp _ (99, [some (.inr (.inr (some 0))), some (.inl n), some (.inl ac), o3_11, o4_11], [.inl x80], mH a79 b82) _
                  have rA := hr82.bad fa79.1 fa79.2 (fun z => by have o9 := px80; omega)
                  have rAt := px80
                  have tl9 : (a79 0 8).toInt = 0 → (a79 0 7).toInt < N := fun z => by have p9 := px80.resolve_right (by omega); rw [fa79.2 7 (by decide)]; exact TK.lt (hr82.T hT.1) (by have z9 : (0 : Int) ≤ (a79 0 7).toInt := (ha79 0 7).1; rw [fa79.2 7 (by decide)] at z9; exact z9) (by omega)
                  refine w_goto rfl ?_
                  refine w_istore (lo' := [some (.inr (.inr (some 0))), some (.inl n), some (.inl ac), some (.inl x80), o4_11]) rfl rfl ?_
                  exact loop104 _ x80 a79 b82 rfl ha79 (FR.tr (hF82) (FR.sub fa79.1 (by decide))) (by first | exact rA | exact hr82) (fun z => hx82 (by omega)) (fun z => by omega) (by omega) (by first | exact (fun z _ => tl9 z) | exact (fun z y => absurd z (by omega)) | exact (fun z y => absurd y (by omega))) (by rw [fa79.1 11 (by decide)]; exact h1182)
              · skip
                refine w_const rfl ?_
                refine w_istore (lo' := [some (.inr (.inr (some 0))), some (.inl n), some (.inl ac), some (.inl (-1)), o4_11]) rfl rfl ?_
                exact loop104 _ (-1) a82 b82 rfl hR82 (hF82) (by first | exact rA | exact hr82) (hx82) (fun z => by omega) (by omega) (by first | exact (fun z _ => tl9 z) | exact (fun z y => absurd z (by omega)) | exact (fun z y => absurd y (by omega))) (h1182)
          refine w_iload rfl rfl ?_
          refine w_if_ge rfl (fun c81 => ?_) (fun c81 => ?_)
          · skip
            refine w_iload rfl rfl ?_
            refine w_const rfl ?_
            refine w_ic_ne rfl (fun c82 => ?_) (fun c82 => ?_)
            · skip
              refine w_aload rfl rfl ?_
              refine w_const rfl ?_
              refine w_invV (rest := []) rfl rfl rfl rfl rfl (Nat.le_of_ble_eq_true rfl) rfl (by omega) (s_wrong (K := K) a11 b11  5 hR11 (by omega)) (fun v83 h9 hq84 => ?_)
              obtain ⟨a85, rfl, ha85, fa85, rfl⟩ := hq84
              show f_wp _ (61, [some (.inr (.inr (some 0))), some (.inl n), some (.inl x24), o3_11, o4_11], [], mH a85 b11) _
              have rw1 := (RK.rf hT).bad fa85.1 fa85.2.1 (fun z => by have o9 := fa85.2.2; omega)
              have wg := fa85.2.2
              have w7 : (a85 0 7).toInt = (a11 0 7).toInt := by rw [fa85.2.1 7 (by decide)]
              refine w_aload rfl rfl ?_
              refine w_dup rfl rfl ?_
              refine w_getI (v := .inl (a85 0 7)) rfl rfl rfl rfl rfl ?_
              have q86 : 0 ≤ (a85 0 7).toInt ∧ (a85 0 7).toInt ≤ 1000 := ha85 0 7
              refine w_aload rfl rfl ?_
              refine w_getI (v := .inl (a85 0 8)) rfl rfl rfl rfl rfl ?_
              have q87 : 0 ≤ (a85 0 8).toInt ∧ (a85 0 8).toInt ≤ 2147483647 := ha85 0 8
              refine w_if_le rfl (fun c88 => ?_) (fun c88 => ?_)
              · exfalso; omega
              · skip
                refine w_const rfl ?_
                refine w_goto rfl ?_
                first | refine w_iadd rfl (by omega) (fun x89 tx89 => ?_) | refine w_iiU rfl (fun x89 tx89 => ?_)
                refine m_putI (z := false) rfl rfl rfl rfl (by first | (intro h9; cases h9; done) | (intro _; first | exact Or.inl rfl | exact Or.inr rfl | assumption)) (fun a90 ea90 => ?_)
                have ha90 : RM K a90 := RM.up ha85 ea90 (show (0 : Int) ≤ _ ∧ _ ≤ (1000 : Int) from by omega)
                have ua90_7 : a90 0 7 = x89 := by rw [ea90, mU_same]
                have wa90_7 := congrArg Int32.toInt ua90_7
                have ua90_8 : (a90 0 8).toInt = (a85 0 8).toInt := by rw [ea90, mU_slot (by decide)]
                have r1 : RK N a11 a90 := by first | exact rw1.up ea90 (by omega) | exact (RK.rf hT).up ea90 (by omega)
                have v8 : (a90 0 8).toInt = (a85 0 8).toInt := by rw [ea90, mU_slot (by decide)]
                exact loop82 _ x24 a90 b11 rfl ha90 (FR.up (FR.tr (hF11) (FR.sub fa85.1 (by decide))) (by decide) ea90) (r1) (fun z => by omega) (by rw [ea90, mU_cell (by decide), fa85.1 11 (by decide)])
            · skip
              refine w_aload rfl rfl ?_
              refine w_dup rfl rfl ?_
              refine w_getI (v := .inl (a11 0 7)) rfl rfl rfl rfl rfl ?_
              have q91 : 0 ≤ (a11 0 7).toInt ∧ (a11 0 7).toInt ≤ 1000 := hR11 0 7
              refine w_aload rfl rfl ?_
              refine w_getI (v := .inl (a11 0 8)) rfl rfl rfl rfl rfl ?_
              have q92 : 0 ≤ (a11 0 8).toInt ∧ (a11 0 8).toInt ≤ 2147483647 := hR11 0 8
              refine w_if_le rfl (fun c93 => ?_) (fun c93 => ?_)
              · skip
                refine w_const rfl ?_
                first | refine w_iadd rfl (by omega) (fun x94 tx94 => ?_) | refine w_iiU rfl (fun x94 tx94 => ?_)
                refine m_putI (z := false) rfl rfl rfl rfl (by first | (intro h9; cases h9; done) | (intro _; first | exact Or.inl rfl | exact Or.inr rfl | assumption)) (fun a95 ea95 => ?_)
                have ha95 : RM K a95 := RM.up hR11 ea95 (show (0 : Int) ≤ _ ∧ _ ≤ (1000 : Int) from by omega)
                have ua95_7 : a95 0 7 = x94 := by rw [ea95, mU_same]
                have wa95_7 := congrArg Int32.toInt ua95_7
                have ua95_8 : (a95 0 8).toInt = (a11 0 8).toInt := by rw [ea95, mU_slot (by decide)]
                have r1 : RK N a11 a95 := by first | exact rw1.up ea95 (by omega) | exact (RK.rf hT).up ea95 (by omega)
                have v8 : (a95 0 8).toInt = (a11 0 8).toInt := by rw [ea95, mU_slot (by decide)]
                exact loop82 _ x24 a95 b11 rfl ha95 (FR.up (hF11) (by decide) ea95) (r1) (fun z => by omega) (by rw [ea95, mU_cell (by decide)])
              · skip
                refine w_const rfl ?_
                refine w_goto rfl ?_
                first | refine w_iadd rfl (by omega) (fun x96 tx96 => ?_) | refine w_iiU rfl (fun x96 tx96 => ?_)
                refine m_putI (z := false) rfl rfl rfl rfl (by first | (intro h9; cases h9; done) | (intro _; first | exact Or.inl rfl | exact Or.inr rfl | assumption)) (fun a97 ea97 => ?_)
                have ha97 : RM K a97 := RM.up hR11 ea97 (show (0 : Int) ≤ _ ∧ _ ≤ (1000 : Int) from by omega)
                have ua97_7 : a97 0 7 = x96 := by rw [ea97, mU_same]
                have wa97_7 := congrArg Int32.toInt ua97_7
                have ua97_8 : (a97 0 8).toInt = (a11 0 8).toInt := by rw [ea97, mU_slot (by decide)]
                have r1 : RK N a11 a97 := by first | exact rw1.up ea97 (by omega) | exact (RK.rf hT).up ea97 (by omega)
                have v8 : (a97 0 8).toInt = (a11 0 8).toInt := by rw [ea97, mU_slot (by decide)]
                exact loop82 _ x24 a97 b11 rfl ha97 (FR.up (hF11) (by decide) ea97) (r1) (fun z => by omega) (by rw [ea97, mU_cell (by decide)])
          · skip
            refine w_aload rfl rfl ?_
            refine w_const rfl ?_
            refine w_invV (rest := []) rfl rfl rfl rfl rfl (Nat.le_of_ble_eq_true rfl) rfl (by omega) (s_wrong (K := K) a11 b11  1 hR11 (by omega)) (fun v98 h9 hq99 => ?_)
            obtain ⟨a100, rfl, ha100, fa100, rfl⟩ := hq99
            show f_wp _ (47, [some (.inr (.inr (some 0))), some (.inl n), some (.inl x24), o3_11, o4_11], [], mH a100 b11) _
            have rw1 := (RK.rf hT).bad fa100.1 fa100.2.1 (fun z => by have o9 := fa100.2.2; omega)
            have wg := fa100.2.2
            have w7 : (a100 0 7).toInt = (a11 0 7).toInt := by rw [fa100.2.1 7 (by decide)]
            refine w_goto rfl ?_
            refine w_aload rfl rfl ?_
            refine w_dup rfl rfl ?_
            refine w_getI (v := .inl (a100 0 7)) rfl rfl rfl rfl rfl ?_
            have q101 : 0 ≤ (a100 0 7).toInt ∧ (a100 0 7).toInt ≤ 1000 := ha100 0 7
            refine w_aload rfl rfl ?_
            refine w_getI (v := .inl (a100 0 8)) rfl rfl rfl rfl rfl ?_
            have q102 : 0 ≤ (a100 0 8).toInt ∧ (a100 0 8).toInt ≤ 2147483647 := ha100 0 8
            refine w_if_le rfl (fun c103 => ?_) (fun c103 => ?_)
            · exfalso; omega
            · skip
              refine w_const rfl ?_
              refine w_goto rfl ?_
              first | refine w_iadd rfl (by omega) (fun x104 tx104 => ?_) | refine w_iiU rfl (fun x104 tx104 => ?_)
              refine m_putI (z := false) rfl rfl rfl rfl (by first | (intro h9; cases h9; done) | (intro _; first | exact Or.inl rfl | exact Or.inr rfl | assumption)) (fun a105 ea105 => ?_)
              have ha105 : RM K a105 := RM.up ha100 ea105 (show (0 : Int) ≤ _ ∧ _ ≤ (1000 : Int) from by omega)
              have ua105_7 : a105 0 7 = x104 := by rw [ea105, mU_same]
              have wa105_7 := congrArg Int32.toInt ua105_7
              have ua105_8 : (a105 0 8).toInt = (a100 0 8).toInt := by rw [ea105, mU_slot (by decide)]
              have r1 : RK N a11 a105 := by first | exact rw1.up ea105 (by omega) | exact (RK.rf hT).up ea105 (by omega)
              have v8 : (a105 0 8).toInt = (a100 0 8).toInt := by rw [ea105, mU_slot (by decide)]
              exact loop82 _ x24 a105 b11 rfl ha105 (FR.up (FR.tr (hF11) (FR.sub fa100.1 (by decide))) (by decide) ea105) (r1) (fun z => by omega) (by rw [ea105, mU_cell (by decide), fa100.1 11 (by decide)])
      · skip
        exact loop255 _ n a11 b11 o2_11 o3_11 o4_11 rfl hR11 (hF11) (hn) (hv) (hq) (h02)
  exact loop11 _ 0 a4 b5 none none none rfl ha4 (FR.tr (FR.up (FR.rf) (by decide) ea1) (FR.sub fa4.1 (by decide))) (⟨hN1, by rw [ce.2.1]; omega, hN2⟩) (by omega) (fun k9 h9 => absurd h9 (by rw [show (0 : Int32).toInt.toNat = 0 from rfl]; omega)) (fun j _ => by rw [ce.1 11 (by decide), ea1, mU_cell (by decide)]) (ce.2.2.2.1)
