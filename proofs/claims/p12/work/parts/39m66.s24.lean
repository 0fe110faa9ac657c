set_option maxRecDepth 4000 in
theorem s_starts_0 {K : Nat} (a : Nat → Nat → Int32) (b : Nat → Nat → Int64) (q : Int32) (hR : RM K a) (hb : 0 ≤ q.toInt ∧ q.toInt ≤ 1260 ∧ q.toInt % 60 = 0) : f_call mtM 1 38 [.inr (.inr (some 0)), .inl q] (mH a b) (fun v9 h' => ∃ (a' : Nat → Nat → Int32), h' = mH a' b ∧ RM K a' ∧ (FR [15] a a' ∧ (∀ m9, m9 < 22 → ACm m9 a → ACm m9 a') ∧ (∀ j, (j < q.toInt.toNat ∨ q.toInt.toNat + 19 ≤ j) → a' 15 j = a 15 j) ∧ (a' 15 q.toInt.toNat).toInt = 0 ∧ (∀ i, i < 6 → a' 15 (q.toInt.toNat + 1 + i) = -1)) ∧ v9 = none) := by
  refine f_call_of (d0 := 0) rfl (Nat.le_of_ble_eq_true rfl) (fun d hd => ?_)
  show f_wp _ (0, [some (.inr (.inr (some 0))), some (.inl q), none], [], mH a b) _
  have lm1 : (-1 : Int32).toInt = -1 := rfl
  have l0 : (0 : Int32).toInt = 0 := rfl
  have l1 : (1 : Int32).toInt = 1 := rfl
  have l6 : (6 : Int32).toInt = 6 := rfl
  have l7 : (7 : Int32).toInt = 7 := rfl
  have l13 : (13 : Int32).toInt = 13 := rfl
  refine w_aload rfl rfl ?_
  refine w_getR (v := .inr (.inr (some 15))) rfl rfl rfl rfl rfl ?_
  refine w_iload rfl rfl ?_
  refine w_const rfl ?_
  first | refine w_iadd rfl (by omega) (fun x1 tx1 => ?_) | refine w_iiU rfl (fun x1 tx1 => ?_)
  refine w_const rfl ?_
  refine m_iast rfl rfl (by omega) (fun a2 ea2 => ?_)
  have ha2 : RM K a2 := RM.up hR ea2 (st_now (by omega) (by omega))
  refine w_const rfl ?_
  refine w_istore (lo' := [some (.inr (.inr (some 0))), some (.inl q), some (.inl 0)]) rfl rfl ?_
  have loop11 : ∀ (ms9 : Nat) (r : Int32) (a11 : Nat → Nat → Int32) , (6 - r.toInt).toNat = ms9 → RM K a11 → FR [15] a a11 → (∀ m9, m9 < 22 → ACm m9 a → ACm m9 a11) → (0 ≤ r.toInt ∧ r.toInt ≤ 6) → ((∀ j, (j < q.toInt.toNat ∨ q.toInt.toNat + 19 ≤ j) → a11 15 j = a 15 j)) → ((a11 15 q.toInt.toNat).toInt = 0) → ((∀ i, i < r.toInt.toNat → a11 15 (q.toInt.toNat + 1 + i) = -1)) → f_wp (f_code (t_X13_starts (f_ev mtM d))) (11, [some (.inr (.inr (some 0))), some (.inl q), some (.inl r)], [], mH a11 b) (fun v9 h' => ∃ (a' : Nat → Nat → Int32), h' = mH a' b ∧ RM K a' ∧ (FR [15] a a' ∧ (∀ m9, m9 < 22 → ACm m9 a → ACm m9 a') ∧ (∀ j, (j < q.toInt.toNat ∨ q.toInt.toNat + 19 ≤ j) → a' 15 j = a 15 j) ∧ (a' 15 q.toInt.toNat).toInt = 0 ∧ (∀ i, i < 6 → a' 15 (q.toInt.toNat + 1 + i) = -1)) ∧ v9 = none) := by
    intro ms9
    induction ms9 using Nat.strongRecOn with
    | _ ms11 ih11 =>
      intro r a11  hm11 hR11 hF11 hC11 hr hS hW hX
      refine w_iload rfl rfl ?_
      refine w_const rfl ?_
      refine w_ic_ge rfl (fun c3 => ?_) (fun c3 => ?_)
      · skip
        exact w_ret rfl ⟨a11, rfl, hR11, ⟨hF11, hC11, ⟨hS, hW, fun i hi => hX i (by omega)⟩⟩, rfl⟩
      · skip
        refine w_aload rfl rfl ?_
        refine w_getR (v := .inr (.inr (some 15))) rfl rfl rfl rfl rfl ?_
        refine w_iload rfl rfl ?_
        refine w_const rfl ?_
        first | refine w_iadd rfl (by omega) (fun x4 tx4 => ?_) | refine w_iiU rfl (fun x4 tx4 => ?_)
        refine w_iload rfl rfl ?_
        first | refine w_iadd rfl (by omega) (fun x5 tx5 => ?_) | refine w_iiU rfl (fun x5 tx5 => ?_)
        refine w_const rfl ?_
        refine m_iast rfl rfl (by omega) (fun a6 ea6 => ?_)
        have ha6 : RM K a6 := RM.up hR11 ea6 (st_wed (by omega) (by omega))
        refine w_aload rfl rfl ?_
        refine w_getR (v := .inr (.inr (some 15))) rfl rfl rfl rfl rfl ?_
        refine w_iload rfl rfl ?_
        refine w_const rfl ?_
        first | refine w_iadd rfl (by omega) (fun x7 tx7 => ?_) | refine w_iiU rfl (fun x7 tx7 => ?_)
        refine w_iload rfl rfl ?_
        first | refine w_iadd rfl (by omega) (fun x8 tx8 => ?_) | refine w_iiU rfl (fun x8 tx8 => ?_)
        refine w_const rfl ?_
        refine m_iast rfl rfl (by omega) (fun a9 ea9 => ?_)
        have ha9 : RM K a9 := RM.up ha6 ea9 (st_any _ (by omega))
        refine w_aload rfl rfl ?_
        refine w_getR (v := .inr (.inr (some 15))) rfl rfl rfl rfl rfl ?_
        refine w_iload rfl rfl ?_
        refine w_const rfl ?_
        first | refine w_iadd rfl (by omega) (fun x10 tx10 => ?_) | refine w_iiU rfl (fun x10 tx10 => ?_)
        refine w_iload rfl rfl ?_
        first | refine w_iadd rfl (by omega) (fun x11 tx11 => ?_) | refine w_iiU rfl (fun x11 tx11 => ?_)
        refine w_const rfl ?_
        refine m_iast rfl rfl (by omega) (fun a12 ea12 => ?_)
        have ha12 : RM K a12 := RM.up ha9 ea12 (st_any _ (by omega))
        refine w_iinc (lo' := fun z9 => [some (.inr (.inr (some 0))), some (.inl q), some (.inl z9)]) rfl rfl (fun _ => rfl) (by omega) (fun x13 tx13 => ?_)
        refine w_goto rfl ?_
        exact ih11 (6 - x13.toInt).toNat (by omega) x13 a12 rfl ha12 (FR.up (FR.up (FR.up (hF11) (by decide) ea6) (by decide) ea9) (by decide) ea12) (fun (m9 : Nat) (l9 : m9 < 22) (h7 : ACm m9 a) => ACm.put ((fun (m9 : Nat) (l9 : m9 < 22) (h7 : ACm m9 a) => ACm.put ((fun (m9 : Nat) (l9 : m9 < 22) (h7 : ACm m9 a) => ACm.put ((hC11) m9 l9 h7) ea6 (by omega)) m9 l9 h7) ea9 (by omega)) m9 l9 h7) ea12 (by omega)) (by omega) (fun j hj => by rw [ea12, mU_slot (by omega), ea9, mU_slot (by omega), ea6, mU_slot (by omega)]; exact hS j hj) (by rw [ea12, mU_slot (by omega), ea9, mU_slot (by omega), ea6, mU_slot (by omega)]; exact hW) (fun i hi => by rw [ea12, mU_slot (by omega), ea9, mU_slot (by omega), ea6, mU_get]; split; rfl; exact hX i (by omega))
  exact loop11 _ 0 a2 rfl ha2 (FR.up (FR.rf) (by decide) ea2) (fun (m9 : Nat) (l9 : m9 < 22) (h7 : ACm m9 a) => ACm.put ((fun (m9 : Nat) (l9 : m9 < 22) (h7 : ACm m9 a) => h7) m9 l9 h7) ea2 (by omega)) (by omega) (fun j hj => by rw [ea2, mU_slot (by omega)]) (by rw [ea2, show (x1).toInt.toNat = q.toInt.toNat from by omega, mU_same]; rfl) (fun i hi => absurd hi (by omega))
set_option maxRecDepth 4000 in
theorem s_worthAt {K : Nat} (a : Nat → Nat → Int32) (b : Nat → Nat → Int64) (f : Int32) (hR : RM K a) (hf : 0 ≤ f.toInt) (hC : CDV a f.toInt.toNat) : f_call mtM 2 35 [.inr (.inr (some 0)), .inl f] (mH a b) (fun v9 h' => ∃ (a' : Nat → Nat → Int32), h' = mH a' b ∧ RM K a' ∧ (FR [14] a a' ∧ True) ∧ ∃ x : Int32, v9 = some (.inl x) ∧ True) := by
  refine f_call_of (d0 := 1) rfl (Nat.le_of_ble_eq_true rfl) (fun d hd => ?_)
  show f_wp _ (0, [some (.inr (.inr (some 0))), some (.inl f), none, none, none], [], mH a b) _
  have lm1 : (-1 : Int32).toInt = -1 := rfl
  have l0 : (0 : Int32).toInt = 0 := rfl
  have l1 : (1 : Int32).toInt = 1 := rfl
  have l2 : (2 : Int32).toInt = 2 := rfl
  have l3 : (3 : Int32).toInt = 3 := rfl
  obtain ⟨n, hn1, hn2, hn3⟩ := hC
  refine w_const rfl ?_
  refine w_istore (lo' := [some (.inr (.inr (some 0))), some (.inl f), some (.inl 0), none, none]) rfl rfl ?_
  refine w_iload rfl rfl ?_
  refine w_istore (lo' := [some (.inr (.inr (some 0))), some (.inl f), some (.inl 0), some (.inl f), none]) rfl rfl ?_
  have loop4 : ∀ (ms9 : Nat) (h : Int32) (p : Int32) (a4 : Nat → Nat → Int32) (o4_4 : Option f_V), (f.toInt + n - p.toInt).toNat = ms9 → RM K a4 → FR [14] a a4 → (f.toInt ≤ p.toInt ∧ p.toInt ≤ f.toInt + n) → (0 ≤ h.toInt) → (hgr a f.toInt.toNat (p.toInt - f.toInt).toNat = some h.toInt.toNat) → f_wp (f_code (t_X13_worthAt (f_ev mtM d))) (4, [some (.inr (.inr (some 0))), some (.inl f), some (.inl h), some (.inl p), o4_4], [], mH a4 b) (fun v9 h' => ∃ (a' : Nat → Nat → Int32), h' = mH a' b ∧ RM K a' ∧ (FR [14] a a' ∧ True) ∧ ∃ x : Int32, v9 = some (.inl x) ∧ True) := by
    intro ms9
    induction ms9 using Nat.strongRecOn with
    | _ ms4 ih4 =>
      intro h p a4 o4_4 hm4 hR4 hF4 hp hh hg
      refine w_aload rfl rfl ?_
      refine w_getR (v := .inr (.inr (some 7))) rfl rfl rfl rfl rfl ?_
      refine w_iload rfl rfl ?_
      refine m_iald rfl rfl (by omega) (fun x1 ex1 => ?_)
      have qx1 : 0 ≤ x1.toInt ∧ x1.toInt ≤ 10 := by rw [ex1]; exact hR4 7 _
      have o9 : x1.toInt = (a 7 p.toInt.toNat).toInt := by rw [ex1, hF4 7 (by decide)]
      refine w_if_eq rfl (fun c2 => ?_) (fun c2 => ?_)
      · skip
        refine w_aload rfl rfl ?_
        refine w_getR (v := .inr (.inr (some 14))) rfl rfl rfl rfl rfl ?_
        refine w_const rfl ?_
        refine m_iald rfl rfl (by omega) (fun x3 ex3 => ?_)
        exact wp_iret (z := false) rfl (fun h9 => by cases h9) ⟨a4, rfl, hR4, ⟨hF4, trivial⟩, ⟨_, rfl, trivial⟩⟩
      · skip
        have q9 : f.toInt.toNat + (p.toInt - f.toInt).toNat = p.toInt.toNat := by omega
        have lt9 : p.toInt < f.toInt + n := by
          by_cases e9 : p.toInt = f.toInt + n
          · rw [show f.toInt.toNat + n = p.toInt.toNat from by omega] at hn3; omega
          · omega
        obtain ⟨h1, s1, s2⟩ := hgr_step hn2 hg (by omega)
        rw [q9] at s1
        have s3 := hgs_inv s1
        have le9 := hgr_le hg
        refine w_aload rfl rfl ?_
        refine w_getR (v := .inr (.inr (some 7))) rfl rfl rfl rfl rfl ?_
        refine w_iload rfl rfl ?_
        refine m_iald rfl rfl (by omega) (fun x4 ex4 => ?_)
        have qx4 : 0 ≤ x4.toInt ∧ x4.toInt ≤ 10 := by rw [ex4]; exact hR4 7 _
        have o8 : x4.toInt = (a 7 p.toInt.toNat).toInt := by rw [ex4, hF4 7 (by decide)]
        refine w_istore (lo' := [some (.inr (.inr (some 0))), some (.inl f), some (.inl h), some (.inl p), some (.inl x4)]) rfl rfl ?_
        refine w_iload rfl rfl ?_
        refine w_const rfl ?_
        refine w_ic_eq rfl (fun c5 => ?_) (fun c5 => ?_)
        · skip
          refine w_aload rfl rfl ?_
          refine w_getR (v := .inr (.inr (some 14))) rfl rfl rfl rfl rfl ?_
          refine w_iload rfl rfl ?_
          refine w_iload rfl rfl ?_
          refine w_const rfl ?_
          refine w_ic_ne rfl (fun c6 => ?_) (fun c6 => ?_)
          · skip
            refine w_aload rfl rfl ?_
            refine w_getR (v := .inr (.inr (some 8))) rfl rfl rfl rfl rfl ?_
            refine w_iload rfl rfl ?_
            refine m_iald rfl rfl (by omega) (fun x7 ex7 => ?_)
            refine w_goto rfl ?_
            refine m_iast rfl rfl (by omega) (fun a8 ea8 => ?_)
            have ha8 : RM K a8 := RM.up hR4 ea8 ⟨ti_lo _, ti_hi _⟩
            refine w_iinc (lo' := fun z9 => [some (.inr (.inr (some 0))), some (.inl f), some (.inl z9), some (.inl p), some (.inl x4)]) rfl rfl (fun _ => rfl) (by omega) (fun x9 tx9 => ?_)
            refine w_goto rfl ?_
            refine w_iinc (lo' := fun z9 => [some (.inr (.inr (some 0))), some (.inl f), some (.inl x9), some (.inl z9), some (.inl x4)]) rfl rfl (fun _ => rfl) (by omega) (fun x10 tx10 => ?_)
            refine w_goto rfl ?_
            exact ih4 (f.toInt + n - x10.toInt).toNat (by omega) x9 x10 a8 (some (.inl x4)) rfl ha8 (FR.up (hF4) (by decide) ea8) (by omega) (by omega) (by rw [show (x10.toInt - f.toInt).toNat = (p.toInt - f.toInt).toNat + 1 from by omega, s2]; congr 1; omega)
          · skip
            refine w_aload rfl rfl ?_
            refine w_getR (v := .inr (.inr (some 13))) rfl rfl rfl rfl rfl ?_
            refine w_aload rfl rfl ?_
            refine w_getR (v := .inr (.inr (some 8))) rfl rfl rfl rfl rfl ?_
            refine w_iload rfl rfl ?_
            refine m_iald rfl rfl (by omega) (fun x11 ex11 => ?_)
            have g9 : x11.toInt = (a 8 p.toInt.toNat).toInt := by rw [ex11, hF4 8 (by decide)]
            refine m_iald rfl rfl (by omega) (fun x12 ex12 => ?_)
            refine m_iast rfl rfl (by omega) (fun a13 ea13 => ?_)
            have ha13 : RM K a13 := RM.up hR4 ea13 ⟨ti_lo _, ti_hi _⟩
            refine w_iinc (lo' := fun z9 => [some (.inr (.inr (some 0))), some (.inl f), some (.inl z9), some (.inl p), some (.inl x4)]) rfl rfl (fun _ => rfl) (by omega) (fun x14 tx14 => ?_)
            refine w_goto rfl ?_
            refine w_iinc (lo' := fun z9 => [some (.inr (.inr (some 0))), some (.inl f), some (.inl x14), some (.inl z9), some (.inl x4)]) rfl rfl (fun _ => rfl) (by omega) (fun x15 tx15 => ?_)
            refine w_goto rfl ?_
            exact ih4 (f.toInt + n - x15.toInt).toNat (by omega) x14 x15 a13 (some (.inl x4)) rfl ha13 (FR.up (hF4) (by decide) ea13) (by omega) (by omega) (by rw [show (x15.toInt - f.toInt).toNat = (p.toInt - f.toInt).toNat + 1 from by omega, s2]; congr 1; omega)
        · skip
          refine w_iload rfl rfl ?_
          refine w_const rfl ?_
          refine w_ic_ne rfl (fun c16 => ?_) (fun c16 => ?_)
          · skip
            refine w_aload rfl rfl ?_
            refine w_getR (v := .inr (.inr (some 14))) rfl rfl rfl rfl rfl ?_
            refine w_iload rfl rfl ?_
            refine w_iload rfl rfl ?_
            refine w_const rfl ?_
            refine w_ic_ne rfl (fun c17 => ?_) (fun c17 => ?_)
            · skip
              refine w_aload rfl rfl ?_
              refine w_getR (v := .inr (.inr (some 8))) rfl rfl rfl rfl rfl ?_
              refine w_iload rfl rfl ?_
              refine m_iald rfl rfl (by omega) (fun x18 ex18 => ?_)
              refine w_goto rfl ?_
              refine m_iast rfl rfl (by omega) (fun a19 ea19 => ?_)
              have ha19 : RM K a19 := RM.up hR4 ea19 ⟨ti_lo _, ti_hi _⟩
              refine w_iinc (lo' := fun z9 => [some (.inr (.inr (some 0))), some (.inl f), some (.inl z9), some (.inl p), some (.inl x4)]) rfl rfl (fun _ => rfl) (by omega) (fun x20 tx20 => ?_)
              refine w_goto rfl ?_
              refine w_iinc (lo' := fun z9 => [some (.inr (.inr (some 0))), some (.inl f), some (.inl x20), some (.inl z9), some (.inl x4)]) rfl rfl (fun _ => rfl) (by omega) (fun x21 tx21 => ?_)
              refine w_goto rfl ?_
              exact ih4 (f.toInt + n - x21.toInt).toNat (by omega) x20 x21 a19 (some (.inl x4)) rfl ha19 (FR.up (hF4) (by decide) ea19) (by omega) (by omega) (by rw [show (x21.toInt - f.toInt).toNat = (p.toInt - f.toInt).toNat + 1 from by omega, s2]; congr 1; omega)
            · skip
              refine w_aload rfl rfl ?_
              refine w_getR (v := .inr (.inr (some 13))) rfl rfl rfl rfl rfl ?_
              refine w_aload rfl rfl ?_
              refine w_getR (v := .inr (.inr (some 8))) rfl rfl rfl rfl rfl ?_
              refine w_iload rfl rfl ?_
              refine m_iald rfl rfl (by omega) (fun x22 ex22 => ?_)
              have g9 : x22.toInt = (a 8 p.toInt.toNat).toInt := by rw [ex22, hF4 8 (by decide)]
              refine m_iald rfl rfl (by omega) (fun x23 ex23 => ?_)
              refine m_iast rfl rfl (by omega) (fun a24 ea24 => ?_)
              have ha24 : RM K a24 := RM.up hR4 ea24 ⟨ti_lo _, ti_hi _⟩
              refine w_iinc (lo' := fun z9 => [some (.inr (.inr (some 0))), some (.inl f), some (.inl z9), some (.inl p), some (.inl x4)]) rfl rfl (fun _ => rfl) (by omega) (fun x25 tx25 => ?_)
              refine w_goto rfl ?_
              refine w_iinc (lo' := fun z9 => [some (.inr (.inr (some 0))), some (.inl f), some (.inl x25), some (.inl z9), some (.inl x4)]) rfl rfl (fun _ => rfl) (by omega) (fun x26 tx26 => ?_)
              refine w_goto rfl ?_
              exact ih4 (f.toInt + n - x26.toInt).toNat (by omega) x25 x26 a24 (some (.inl x4)) rfl ha24 (FR.up (hF4) (by decide) ea24) (by omega) (by omega) (by rw [show (x26.toInt - f.toInt).toNat = (p.toInt - f.toInt).toNat + 1 from by omega, s2]; congr 1; omega)
          · skip
            refine w_iload rfl rfl ?_
            refine w_const rfl ?_
            refine w_ic_ne rfl (fun c27 => ?_) (fun c27 => ?_)
            · skip
              refine w_aload rfl rfl ?_
              refine w_getR (v := .inr (.inr (some 14))) rfl rfl rfl rfl rfl ?_
              refine w_iload rfl rfl ?_
              refine w_const rfl ?_
              first | refine w_isub rfl (by omega) (fun x28 tx28 => ?_) | refine w_iiU rfl (fun x28 tx28 => ?_)
              refine w_aload rfl rfl ?_
              refine w_getR (v := .inr (.inr (some 14))) rfl rfl rfl rfl rfl ?_
              refine w_iload rfl rfl ?_
              refine w_const rfl ?_
              first | refine w_isub rfl (by omega) (fun x29 tx29 => ?_) | refine w_iiU rfl (fun x29 tx29 => ?_)
              refine m_iald rfl rfl (by omega) (fun x30 ex30 => ?_)
              refine w_if_ne rfl (fun c31 => ?_) (fun c31 => ?_)
              · skip
                refine w_const rfl ?_
                refine w_goto rfl ?_
                refine m_iast rfl rfl (by omega) (fun a32 ea32 => ?_)
                have ha32 : RM K a32 := RM.up hR4 ea32 ⟨ti_lo _, ti_hi _⟩
                refine w_goto rfl ?_
                refine w_iinc (lo' := fun z9 => [some (.inr (.inr (some 0))), some (.inl f), some (.inl h), some (.inl z9), some (.inl x4)]) rfl rfl (fun _ => rfl) (by omega) (fun x33 tx33 => ?_)
                refine w_goto rfl ?_
                exact ih4 (f.toInt + n - x33.toInt).toNat (by omega) h x33 a32 (some (.inl x4)) rfl ha32 (FR.up (hF4) (by decide) ea32) (by omega) (by omega) (by rw [show (x33.toInt - f.toInt).toNat = (p.toInt - f.toInt).toNat + 1 from by omega, s2]; congr 1; omega)
              · skip
                refine w_const rfl ?_
                refine m_iast rfl rfl (by omega) (fun a34 ea34 => ?_)
                have ha34 : RM K a34 := RM.up hR4 ea34 ⟨ti_lo _, ti_hi _⟩
                refine w_goto rfl ?_
                refine w_iinc (lo' := fun z9 => [some (.inr (.inr (some 0))), some (.inl f), some (.inl h), some (.inl z9), some (.inl x4)]) rfl rfl (fun _ => rfl) (by omega) (fun x35 tx35 => ?_)
                refine w_goto rfl ?_
                exact ih4 (f.toInt + n - x35.toInt).toNat (by omega) h x35 a34 (some (.inl x4)) rfl ha34 (FR.up (hF4) (by decide) ea34) (by omega) (by omega) (by rw [show (x35.toInt - f.toInt).toNat = (p.toInt - f.toInt).toNat + 1 from by omega, s2]; congr 1; omega)
            · skip
              refine w_iinc (lo' := fun z9 => [some (.inr (.inr (some 0))), some (.inl f), some (.inl z9), some (.inl p), some (.inl x4)]) rfl rfl (fun _ => rfl) (by omega) (fun x36 tx36 => ?_)
              refine w_aload rfl rfl ?_
              refine w_getR (v := .inr (.inr (some 14))) rfl rfl rfl rfl rfl ?_
              refine w_iload rfl rfl ?_
              refine w_const rfl ?_
              first | refine w_isub rfl (by omega) (fun x37 tx37 => ?_) | refine w_iiU rfl (fun x37 tx37 => ?_)
              refine w_iload rfl rfl ?_
              refine w_aload rfl rfl ?_
              refine w_getR (v := .inr (.inr (some 14))) rfl rfl rfl rfl rfl ?_
              refine w_iload rfl rfl ?_
              refine w_const rfl ?_
              first | refine w_isub rfl (by omega) (fun x38 tx38 => ?_) | refine w_iiU rfl (fun x38 tx38 => ?_)
              refine m_iald rfl rfl (by omega) (fun x39 ex39 => ?_)
              refine w_aload rfl rfl ?_
              refine w_getR (v := .inr (.inr (some 14))) rfl rfl rfl rfl rfl ?_
              refine w_iload rfl rfl ?_
              refine m_iald rfl rfl (by omega) (fun x40 ex40 => ?_)
              refine w_invS (rest := [.inl x37, .inr (.inr (some 14))]) rfl (Nat.le_of_ble_eq_true rfl) rfl (Nat.le_of_ble_eq_true rfl) rfl (by omega) (s_both (K := K) a4 b  x4 x39 x40  ) (fun v41 h9 hq42 => ?_)
              obtain ⟨rfl, x43, rfl, px43⟩ := hq42
              show f_wp _ (133, [some (.inr (.inr (some 0))), some (.inl f), some (.inl x36), some (.inl p), some (.inl x4)], [.inl x43, .inl x37, .inr (.inr (some 14))], mH a4 b) _
              refine m_iast rfl rfl (by omega) (fun a44 ea44 => ?_)
              have ha44 : RM K a44 := RM.up hR4 ea44 ⟨ti_lo _, ti_hi _⟩
              refine w_iinc (lo' := fun z9 => [some (.inr (.inr (some 0))), some (.inl f), some (.inl x36), some (.inl z9), some (.inl x4)]) rfl rfl (fun _ => rfl) (by omega) (fun x45 tx45 => ?_)
              refine w_goto rfl ?_
              exact ih4 (f.toInt + n - x45.toInt).toNat (by omega) x36 x45 a44 (some (.inl x4)) rfl ha44 (FR.up (hF4) (by decide) ea44) (by omega) (by omega) (by rw [show (x45.toInt - f.toInt).toNat = (p.toInt - f.toInt).toNat + 1 from by omega, s2]; congr 1; omega)
  exact loop4 _ 0 f a none rfl hR (FR.rf) (by omega) (by omega) (by rw [show (f.toInt - f.toInt).toNat = 0 from by omega]; rfl)
set_option maxRecDepth 4000 in
theorem s_lawOf {K : Nat} (a : Nat → Nat → Int32) (b : Nat → Nat → Int64) (i : Int32) (r : Int32) (v : Int32) (df : Int32) (hR : RM K a) (hi : i.toInt = 0 ∨ i.toInt = 1) (hr : 0 ≤ r.toInt ∧ r.toInt < 6) (hC : CDI a) : f_call mtM 3 71 [.inr (.inr (some 0)), .inl i, .inl r, .inl v, .inl df] (mH a b) (fun v9 h' => ∃ (a' : Nat → Nat → Int32), h' = mH a' b ∧ RM K a' ∧ (FR [13, 14] a a' ∧ True) ∧ ∃ x : Int32, v9 = some (.inl x) ∧ (0 ≤ x.toInt ∧ x.toInt ≤ 99)) := by
  refine f_call_of (d0 := 2) rfl (Nat.le_of_ble_eq_true rfl) (fun d hd => ?_)
  show f_wp _ (0, [some (.inr (.inr (some 0))), some (.inl i), some (.inl r), some (.inl v), some (.inl df), none], [], mH a b) _
  have l0 : (0 : Int32).toInt = 0 := rfl
  have l1 : (1 : Int32).toInt = 1 := rfl
  have l5 : (5 : Int32).toInt = 5 := rfl
  have l99 : (99 : Int32).toInt = 99 := rfl
  refine w_aload rfl rfl ?_
  refine w_getR (v := .inr (.inr (some 13))) rfl rfl rfl rfl rfl ?_
  refine w_const rfl ?_
  refine w_iload rfl rfl ?_
  refine m_iast rfl rfl (by omega) (fun a1 ea1 => ?_)
  have ha1 : RM K a1 := RM.up hR ea1 ⟨ti_lo _, ti_hi _⟩
  refine w_aload rfl rfl ?_
  refine w_getR (v := .inr (.inr (some 13))) rfl rfl rfl rfl rfl ?_
  refine w_const rfl ?_
  refine w_aload rfl rfl ?_
  refine w_iload rfl rfl ?_
  refine w_invV (rest := [.inl 1, .inr (.inr (some 13))]) rfl rfl rfl rfl rfl (Nat.le_of_ble_eq_true rfl) rfl (by omega) (s_springOf (K := K) a1 b  r ha1 (by omega)) (fun v2 h9 hq3 => ?_)
  obtain ⟨rfl, x4, rfl, px4⟩ := hq3
  show f_wp _ (17, [some (.inr (.inr (some 0))), some (.inl i), some (.inl r), some (.inl v), some (.inl df), none], [.inl x4, .inl 1, .inr (.inr (some 13))], mH a1 b) _
  refine w_aload rfl rfl ?_
  refine w_iload rfl rfl ?_
  refine w_invV (rest := [.inl x4, .inl 1, .inr (.inr (some 13))]) rfl rfl rfl rfl rfl (Nat.le_of_ble_eq_true rfl) rfl (by omega) (s_mouthOf (K := K) a1 b  r ha1 (by omega)) (fun v5 h9 hq6 => ?_)
  obtain ⟨rfl, x7, rfl, px7⟩ := hq6
  show f_wp _ (22, [some (.inr (.inr (some 0))), some (.inl i), some (.inl r), some (.inl v), some (.inl df), none], [.inl x7, .inl x4, .inl 1, .inr (.inr (some 13))], mH a1 b) _
  first | refine w_isub rfl (by omega) (fun x8 tx8 => ?_) | refine w_iiU rfl (fun x8 tx8 => ?_)
  refine m_iast rfl rfl (by omega) (fun a9 ea9 => ?_)
  have ha9 : RM K a9 := RM.up ha1 ea9 ⟨ti_lo _, ti_hi _⟩
  refine w_aload rfl rfl ?_
  refine w_getR (v := .inr (.inr (some 6))) rfl rfl rfl rfl rfl ?_
  refine w_const rfl ?_
  refine w_iload rfl rfl ?_
  first | refine w_iadd rfl (by omega) (fun x10 tx10 => ?_) | refine w_iiU rfl (fun x10 tx10 => ?_)
  refine m_iald rfl rfl (by omega) (fun x11 ex11 => ?_)
  have x8 : x11 = a 6 (5 + i.toInt.toNat) := by rw [ex11, show (x10).toInt.toNat = 5 + i.toInt.toNat from by omega, ea9, mU_cell (by decide), ea1, mU_cell (by decide)]
  have x8i := congrArg Int32.toInt x8
  refine w_if_ge rfl (fun c12 => ?_) (fun c12 => ?_)
  · skip
    refine w_aload rfl rfl ?_
    refine w_aload rfl rfl ?_
    refine w_getR (v := .inr (.inr (some 6))) rfl rfl rfl rfl rfl ?_
    refine w_const rfl ?_
    refine w_iload rfl rfl ?_
    first | refine w_iadd rfl (by omega) (fun x13 tx13 => ?_) | refine w_iiU rfl (fun x13 tx13 => ?_)
    refine m_iald rfl rfl (by omega) (fun x14 ex14 => ?_)
    have x9 : x14 = a 6 (5 + i.toInt.toNat) := by rw [ex14, show (x13).toInt.toNat = 5 + i.toInt.toNat from by omega, ea9, mU_cell (by decide), ea1, mU_cell (by decide)]
    have x9i := congrArg Int32.toInt x9
    have D9 : CDV a9 x14.toInt.toNat := by rw [x9]; exact ((hC i.toInt.toNat (by omega)).resolve_left (by omega)).same (fun j _ => by rw [ea9, mU_cell (by decide), ea1, mU_cell (by decide)]) (fun j _ => by rw [ea9, mU_cell (by decide), ea1, mU_cell (by decide)])
    refine w_invV (rest := []) rfl rfl rfl rfl rfl (Nat.le_of_ble_eq_true rfl) rfl (by omega) (s_worthAt (K := K) a9 b  x14 ha9 (by omega) (D9)) (fun v15 h9 hq16 => ?_)
    obtain ⟨a17, rfl, ha17, fa17, x18, rfl, px18⟩ := hq16
    show f_wp _ (52, [some (.inr (.inr (some 0))), some (.inl i), some (.inl r), some (.inl v), some (.inl df), none], [.inl x18], mH a17 b) _
    refine w_istore (lo' := [some (.inr (.inr (some 0))), some (.inl i), some (.inl r), some (.inl v), some (.inl df), some (.inl x18)]) rfl rfl ?_
    refine w_iload rfl rfl ?_
    refine w_if_ge rfl (fun c19 => ?_) (fun c19 => ?_)
    · skip
      refine w_iload rfl rfl ?_
      refine w_const rfl ?_
      refine w_ic_le rfl (fun c20 => ?_) (fun c20 => ?_)
      · skip
        refine w_iload rfl rfl ?_
        exact wp_iret (z := false) rfl (fun h9 => by cases h9) ⟨a17, rfl, ha17, ⟨FR.tr (FR.up (FR.up (FR.rf) (by decide) ea1) (by decide) ea9) (FR.sub fa17.1 (by decide)), trivial⟩, ⟨_, rfl, by omega⟩⟩
      · skip
        refine w_const rfl ?_
        refine w_goto rfl ?_
        exact wp_iret (z := false) rfl (fun h9 => by cases h9) ⟨a17, rfl, ha17, ⟨FR.tr (FR.up (FR.up (FR.rf) (by decide) ea1) (by decide) ea9) (FR.sub fa17.1 (by decide)), trivial⟩, ⟨_, rfl, by omega⟩⟩
    · skip
      refine w_const rfl ?_
      refine w_goto rfl ?_
      exact wp_iret (z := false) rfl (fun h9 => by cases h9) ⟨a17, rfl, ha17, ⟨FR.tr (FR.up (FR.up (FR.rf) (by decide) ea1) (by decide) ea9) (FR.sub fa17.1 (by decide)), trivial⟩, ⟨_, rfl, by omega⟩⟩
  · skip
    refine w_iload rfl rfl ?_
    refine w_goto rfl ?_
    refine w_istore (lo' := [some (.inr (.inr (some 0))), some (.inl i), some (.inl r), some (.inl v), some (.inl df), some (.inl df)]) rfl rfl ?_
    refine w_iload rfl rfl ?_
    refine w_if_ge rfl (fun c21 => ?_) (fun c21 => ?_)
    · skip
      refine w_iload rfl rfl ?_
      refine w_const rfl ?_
      refine w_ic_le rfl (fun c22 => ?_) (fun c22 => ?_)
      · skip
        refine w_iload rfl rfl ?_
        exact wp_iret (z := false) rfl (fun h9 => by cases h9) ⟨a9, rfl, ha9, ⟨FR.up (FR.up (FR.rf) (by decide) ea1) (by decide) ea9, trivial⟩, ⟨_, rfl, by omega⟩⟩
      · skip
        refine w_const rfl ?_
        refine w_goto rfl ?_
        exact wp_iret (z := false) rfl (fun h9 => by cases h9) ⟨a9, rfl, ha9, ⟨FR.up (FR.up (FR.rf) (by decide) ea1) (by decide) ea9, trivial⟩, ⟨_, rfl, by omega⟩⟩
    · skip
      refine w_const rfl ?_
      refine w_goto rfl ?_
      exact wp_iret (z := false) rfl (fun h9 => by cases h9) ⟨a9, rfl, ha9, ⟨FR.up (FR.up (FR.rf) (by decide) ea1) (by decide) ea9, trivial⟩, ⟨_, rfl, by omega⟩⟩
set_option maxRecDepth 4000 in
theorem s_weds {K : Nat} (a : Nat → Nat → Int32) (b : Nat → Nat → Int64) (q : Int32) (w : Int32) (h : Int32) (hR : RM K a) (hb : 0 ≤ q.toInt ∧ q.toInt ≤ 1260 ∧ q.toInt % 60 = 0) (hw : 0 ≤ w.toInt ∧ w.toInt < 6) (hh : 0 ≤ h.toInt ∧ h.toInt < 6) (hA : AC a q.toInt.toNat) (hC : CDI a) (hc : ∀ k, itr a q.toInt.toNat k h.toInt.toNat ≠ some w.toInt.toNat) : f_call mtM 13 72 [.inr (.inr (some 0)), .inl q, .inl w, .inl h] (mH a b) (fun v9 h' => ∃ (a' : Nat → Nat → Int32), h' = mH a' b ∧ RM K a' ∧ (FR [13, 14, 15, 17] a a' ∧ (∀ m9, m9 < 22 → ACm m9 a → ACm m9 a') ∧ (∀ j, (j ≤ q.toInt.toNat ∨ q.toInt.toNat + 19 ≤ j) → a' 15 j = a 15 j)) ∧ ∃ x : Int32, v9 = some (.inl x) ∧ True) := by
  refine f_call_of (d0 := 12) rfl (Nat.le_of_ble_eq_true rfl) (fun d hd => ?_)
  show f_wp _ (0, [some (.inr (.inr (some 0))), some (.inl q), some (.inl w), some (.inl h), none], [], mH a b) _
  have l0 : (0 : Int32).toInt = 0 := rfl
  have l1 : (1 : Int32).toInt = 1 := rfl
  have l2 : (2 : Int32).toInt = 2 := rfl
  have l3 : (3 : Int32).toInt = 3 := rfl
  have l7 : (7 : Int32).toInt = 7 := rfl
  refine w_aload rfl rfl ?_
  refine w_getR (v := .inr (.inr (some 13))) rfl rfl rfl rfl rfl ?_
  refine w_const rfl ?_
  refine w_aload rfl rfl ?_
  refine w_iload rfl rfl ?_
  refine w_iload rfl rfl ?_
  refine w_invV (rest := [.inl 2, .inr (.inr (some 13))]) rfl rfl rfl rfl rfl (Nat.le_of_ble_eq_true rfl) rfl (by omega) (s_nearOf (K := K) a b  w h hR (by omega) (by omega)) (fun v1 h9 hq2 => ?_)
  obtain ⟨a3, rfl, ha3, fa3, x4, rfl, px4⟩ := hq2
  show f_wp _ (11, [some (.inr (.inr (some 0))), some (.inl q), some (.inl w), some (.inl h), none], [.inl x4, .inl 2, .inr (.inr (some 13))], mH a3 b) _
  refine m_iast rfl rfl (by omega) (fun a5 ea5 => ?_)
  have ha5 : RM K a5 := RM.up ha3 ea5 ⟨ti_lo _, ti_hi _⟩
  refine w_aload rfl rfl ?_
  refine w_getR (v := .inr (.inr (some 13))) rfl rfl rfl rfl rfl ?_
  refine w_const rfl ?_
  refine w_aload rfl rfl ?_
  refine w_iload rfl rfl ?_
  refine w_iload rfl rfl ?_
  refine w_invV (rest := [.inl 3, .inr (.inr (some 13))]) rfl rfl rfl rfl rfl (Nat.le_of_ble_eq_true rfl) rfl (by omega) (s_digOf (K := K) a5 b  w h ha5 (by omega) (by omega)) (fun v6 h9 hq7 => ?_)
  obtain ⟨rfl, x8, rfl, px8⟩ := hq7
  show f_wp _ (23, [some (.inr (.inr (some 0))), some (.inl q), some (.inl w), some (.inl h), none], [.inl x8, .inl 3, .inr (.inr (some 13))], mH a5 b) _
  refine m_iast rfl rfl (by omega) (fun a9 ea9 => ?_)
  have ha9 : RM K a9 := RM.up ha5 ea9 ⟨ti_lo _, ti_hi _⟩
  refine w_aload rfl rfl ?_
  refine w_const rfl ?_
  refine w_iload rfl rfl ?_
  refine w_aload rfl rfl ?_
  refine w_iload rfl rfl ?_
  refine w_iload rfl rfl ?_
  refine w_aload rfl rfl ?_
  refine w_iload rfl rfl ?_
  refine w_invV (rest := [.inl w, .inl q, .inr (.inr (some 0)), .inl w, .inl 0, .inr (.inr (some 0))]) rfl rfl rfl rfl rfl (Nat.le_of_ble_eq_true rfl) rfl (by omega) (s_winter (K := K) a9 b  q ha9 (by omega)) (fun v10 h9 hq11 => ?_)
  obtain ⟨rfl, x12, rfl, px12⟩ := hq11
  show f_wp _ (35, [some (.inr (.inr (some 0))), some (.inl q), some (.inl w), some (.inl h), none], [.inl x12, .inl w, .inl q, .inr (.inr (some 0)), .inl w, .inl 0, .inr (.inr (some 0))], mH a9 b) _
  refine w_invV (rest := [.inl w, .inl 0, .inr (.inr (some 0))]) rfl rfl rfl rfl rfl (Nat.le_of_ble_eq_true rfl) rfl (by omega) (s_mouthFlow (K := K) a9 b  q w x12 ha9 (by omega) (by omega) (by omega) ((hA.same (fun r9 _ => by rw [ea9, mU_cell (by decide), ea5, mU_cell (by decide), fa3.1 15 (by decide)])))) (fun v13 h9 hq14 => ?_)
  obtain ⟨rfl, x15, rfl, px15⟩ := hq14
  show f_wp _ (38, [some (.inr (.inr (some 0))), some (.inl q), some (.inl w), some (.inl h), none], [.inl x15, .inl w, .inl 0, .inr (.inr (some 0))], mH a9 b) _
  refine w_const rfl ?_
  refine w_invV (rest := []) rfl rfl rfl rfl rfl (Nat.le_of_ble_eq_true rfl) rfl (by omega) (s_lawOf (K := K) a9 b  0 w x15 1 ha9 (Or.inl rfl) (by omega) (CDI.fr hC ((FR.up (FR.up (FR.tr (FR.rf) (FR.sub fa3.1 (by decide))) (by decide) ea5) (by decide) ea9) : FR [13, 14, 15, 17] a a9) (by decide) (by decide) (by decide))) (fun v16 h9 hq17 => ?_)
  obtain ⟨a18, rfl, ha18, fa18, x19, rfl, px19⟩ := hq17
  show f_wp _ (42, [some (.inr (.inr (some 0))), some (.inl q), some (.inl w), some (.inl h), none], [.inl x19], mH a18 b) _
  refine w_istore (lo' := [some (.inr (.inr (some 0))), some (.inl q), some (.inl w), some (.inl h), some (.inl x19)]) rfl rfl ?_
  refine w_aload rfl rfl ?_
  refine w_getR (v := .inr (.inr (some 15))) rfl rfl rfl rfl rfl ?_
  refine w_iload rfl rfl ?_
  refine w_const rfl ?_
  first | refine w_iadd rfl (by omega) (fun x20 tx20 => ?_) | refine w_iiU rfl (fun x20 tx20 => ?_)
  refine w_iload rfl rfl ?_
  first | refine w_iadd rfl (by omega) (fun x21 tx21 => ?_) | refine w_iiU rfl (fun x21 tx21 => ?_)
  refine w_iload rfl rfl ?_
  refine m_iast rfl rfl (by omega) (fun a22 ea22 => ?_)
  have ha22 : RM K a22 := RM.up ha18 ea22 (st_wed (by omega) (by omega))
  have A7 : ∀ m9, m9 < 22 → ACm m9 a → ACm m9 a22 := fun m9 _ h7 => ACm.wedq (q := q.toInt.toNat) (w := w.toInt.toNat) h7 hR (by omega) (by rw [fa18.1 15 (by decide), ea9, mU_cell (by decide), ea5, mU_cell (by decide), fa3.1 15 (by decide)]) ea22 (by omega) (by omega) (by omega) hc
  refine w_aload rfl rfl ?_
  refine w_getR (v := .inr (.inr (some 15))) rfl rfl rfl rfl rfl ?_
  refine w_iload rfl rfl ?_
  refine w_const rfl ?_
  first | refine w_iadd rfl (by omega) (fun x23 tx23 => ?_) | refine w_iiU rfl (fun x23 tx23 => ?_)
  refine w_iload rfl rfl ?_
  first | refine w_iadd rfl (by omega) (fun x24 tx24 => ?_) | refine w_iiU rfl (fun x24 tx24 => ?_)
  refine w_dup2 rfl ⟨rfl, rfl⟩ ?_
  refine m_iald rfl rfl (by omega) (fun x25 ex25 => ?_)
  refine w_iload rfl rfl ?_
  first | refine w_isub rfl (by omega) (fun x26 tx26 => ?_) | refine w_iiU rfl (fun x26 tx26 => ?_)
  refine m_iast rfl rfl (by omega) (fun a27 ea27 => ?_)
  have ha27 : RM K a27 := RM.up ha22 ea27 (st_any _ (by omega))
  refine w_aload rfl rfl ?_
  refine w_getR (v := .inr (.inr (some 15))) rfl rfl rfl rfl rfl ?_
  refine w_iload rfl rfl ?_
  refine w_const rfl ?_
  first | refine w_iadd rfl (by omega) (fun x28 tx28 => ?_) | refine w_iiU rfl (fun x28 tx28 => ?_)
  refine w_iload rfl rfl ?_
  first | refine w_iadd rfl (by omega) (fun x29 tx29 => ?_) | refine w_iiU rfl (fun x29 tx29 => ?_)
  refine w_dup2 rfl ⟨rfl, rfl⟩ ?_
  refine m_iald rfl rfl (by omega) (fun x30 ex30 => ?_)
  refine w_iload rfl rfl ?_
  first | refine w_iadd rfl (by omega) (fun x31 tx31 => ?_) | refine w_iiU rfl (fun x31 tx31 => ?_)
  refine m_iast rfl rfl (by omega) (fun a32 ea32 => ?_)
  have ha32 : RM K a32 := RM.up ha27 ea32 (st_any _ (by omega))
  refine w_iload rfl rfl ?_
  exact wp_iret (z := false) rfl (fun h9 => by cases h9) ⟨a32, rfl, ha32, ⟨FR.up (FR.up (FR.up (FR.tr (FR.up (FR.up (FR.tr (FR.rf) (FR.sub fa3.1 (by decide))) (by decide) ea5) (by decide) ea9) (FR.sub fa18.1 (by decide))) (by decide) ea22) (by decide) ea27) (by decide) ea32, fun (m9 : Nat) (l9 : m9 < 22) (h7 : ACm m9 a) => ACm.put ((fun (m9 : Nat) (l9 : m9 < 22) (h7 : ACm m9 a) => ACm.put ((A7) m9 l9 h7) ea27 (by omega)) m9 l9 h7) ea32 (by omega), fun j hj => by rw [ea32, mU_slot (by omega), ea27, mU_slot (by omega), ea22, mU_slot (by omega), fa18.1 15 (by decide), ea9, mU_cell (by decide), ea5, mU_cell (by decide), fa3.1 15 (by decide)]⟩, ⟨_, rfl, trivial⟩⟩
set_option maxRecDepth 4000 in
theorem s_passes {K : Nat} (a : Nat → Nat → Int32) (b : Nat → Nat → Int64) (q : Int32) (hR : RM K a) (hb : 0 ≤ q.toInt ∧ q.toInt ≤ 1260 ∧ q.toInt % 60 = 0) (hA : AC a q.toInt.toNat) (hC : CDI a) (hN : (a 15 q.toInt.toNat).toInt + 1 ≤ 100 * K ∧ (a 15 q.toInt.toNat).toInt + 1 ≤ 1000000) : f_call mtM 13 75 [.inr (.inr (some 0)), .inl q] (mH a b) (fun v9 h' => ∃ (a' : Nat → Nat → Int32), h' = mH a' b ∧ RM K a' ∧ (FR [13, 14, 15] a a' ∧ (∀ m9, m9 < 22 → ACm m9 a → ACm m9 a') ∧ ((a' 15 q.toInt.toNat).toInt = (a 15 q.toInt.toNat).toInt + 1 ∧ (∀ j, (j < q.toInt.toNat ∨ (q.toInt.toNat < j ∧ j < q.toInt.toNat + 13) ∨ q.toInt.toNat + 19 ≤ j) → a' 15 j = a 15 j))) ∧ v9 = none) := by
  refine f_call_of (d0 := 12) rfl (Nat.le_of_ble_eq_true rfl) (fun d hd => ?_)
  show f_wp _ (0, [some (.inr (.inr (some 0))), some (.inl q), none], [], mH a b) _
  have l0 : (0 : Int32).toInt = 0 := rfl
  have l1 : (1 : Int32).toInt = 1 := rfl
  have l13 : (13 : Int32).toInt = 13 := rfl
  refine w_const rfl ?_
  refine w_istore (lo' := [some (.inr (.inr (some 0))), some (.inl q), some (.inl 0)]) rfl rfl ?_
  have loop2 : ∀ (ms9 : Nat) (r : Int32) (a2 : Nat → Nat → Int32) , (6 - r.toInt).toNat = ms9 → RM K a2 → FR [13, 14, 15] a a2 → (∀ m9, m9 < 22 → ACm m9 a → ACm m9 a2) → (0 ≤ r.toInt ∧ r.toInt ≤ 6) → ((∀ j, (j < q.toInt.toNat + 13 ∨ q.toInt.toNat + 19 ≤ j) → a2 15 j = a 15 j)) → f_wp (f_code (t_X13_passes (f_ev mtM d))) (2, [some (.inr (.inr (some 0))), some (.inl q), some (.inl r)], [], mH a2 b) (fun v9 h' => ∃ (a' : Nat → Nat → Int32), h' = mH a' b ∧ RM K a' ∧ (FR [13, 14, 15] a a' ∧ (∀ m9, m9 < 22 → ACm m9 a → ACm m9 a') ∧ ((a' 15 q.toInt.toNat).toInt = (a 15 q.toInt.toNat).toInt + 1 ∧ (∀ j, (j < q.toInt.toNat ∨ (q.toInt.toNat < j ∧ j < q.toInt.toNat + 13) ∨ q.toInt.toNat + 19 ≤ j) → a' 15 j = a 15 j))) ∧ v9 = none) := by
    intro ms9
    induction ms9 using Nat.strongRecOn with
    | _ ms2 ih2 =>
      intro r a2  hm2 hR2 hF2 hC2 hr hS
      refine w_iload rfl rfl ?_
      refine w_aload rfl rfl ?_
      refine w_invV (rest := [.inl r]) rfl rfl rfl rfl rfl (Nat.le_of_ble_eq_true rfl) rfl (by omega) (s_rivers (K := K) a2 b   hR2 ) (fun v1 h9 hq2 => ?_)
      obtain ⟨rfl, x3, rfl, px3⟩ := hq2
      show f_wp _ (7, [some (.inr (.inr (some 0))), some (.inl q), some (.inl r)], [.inl x3, .inl r], mH a2 b) _
      refine w_ic_ge rfl (fun c4 => ?_) (fun c4 => ?_)
      · skip
        refine w_aload rfl rfl ?_
        refine w_getR (v := .inr (.inr (some 15))) rfl rfl rfl rfl rfl ?_
        refine w_iload rfl rfl ?_
        refine w_const rfl ?_
        first | refine w_iadd rfl (by omega) (fun x5 tx5 => ?_) | refine w_iiU rfl (fun x5 tx5 => ?_)
        refine w_dup2 rfl ⟨rfl, rfl⟩ ?_
        refine m_iald rfl rfl (by omega) (fun x6 ex6 => ?_)
        have t9 : x6.toInt = (a 15 q.toInt.toNat).toInt := by rw [ex6, show (x5).toInt.toNat = q.toInt.toNat from by omega, hS _ (by omega)]
        have t7 := RM.now hR (j := q.toInt.toNat) (by omega)
        refine w_const rfl ?_
        first | refine w_iadd rfl (by omega) (fun x7 tx7 => ?_) | refine w_iiU rfl (fun x7 tx7 => ?_)
        refine m_iast rfl rfl (by omega) (fun a8 ea8 => ?_)
        have ha8 : RM K a8 := RM.up hR2 ea8 (st_now (by omega) (by omega))
        exact w_ret rfl ⟨a8, rfl, ha8, ⟨FR.up (hF2) (by decide) ea8, fun (m9 : Nat) (l9 : m9 < 22) (h7 : ACm m9 a) => ACm.put ((hC2) m9 l9 h7) ea8 (by omega), ⟨by rw [ea8, show (x5).toInt.toNat = q.toInt.toNat from by omega, mU_same]; omega, fun j hj => by rw [ea8, mU_slot (by omega)]; exact hS j (by omega)⟩⟩, rfl⟩
      · skip
        refine w_aload rfl rfl ?_
        refine w_getR (v := .inr (.inr (some 15))) rfl rfl rfl rfl rfl ?_
        refine w_iload rfl rfl ?_
        refine w_const rfl ?_
        first | refine w_iadd rfl (by omega) (fun x9 tx9 => ?_) | refine w_iiU rfl (fun x9 tx9 => ?_)
        refine w_iload rfl rfl ?_
        first | refine w_iadd rfl (by omega) (fun x10 tx10 => ?_) | refine w_iiU rfl (fun x10 tx10 => ?_)
        refine w_dup2 rfl ⟨rfl, rfl⟩ ?_
        refine m_iald rfl rfl (by omega) (fun x11 ex11 => ?_)
        refine w_aload rfl rfl ?_
        refine w_const rfl ?_
        refine w_iload rfl rfl ?_
        refine w_aload rfl rfl ?_
        refine w_iload rfl rfl ?_
        refine w_iload rfl rfl ?_
        refine w_aload rfl rfl ?_
        refine w_iload rfl rfl ?_
        refine w_invV (rest := [.inl r, .inl q, .inr (.inr (some 0)), .inl r, .inl 1, .inr (.inr (some 0)), .inl x11, .inl x10, .inr (.inr (some 15))]) rfl rfl rfl rfl rfl (Nat.le_of_ble_eq_true rfl) rfl (by omega) (s_winter (K := K) a2 b  q hR2 (by omega)) (fun v12 h9 hq13 => ?_)
        obtain ⟨rfl, x14, rfl, px14⟩ := hq13
        show f_wp _ (33, [some (.inr (.inr (some 0))), some (.inl q), some (.inl r)], [.inl x14, .inl r, .inl q, .inr (.inr (some 0)), .inl r, .inl 1, .inr (.inr (some 0)), .inl x11, .inl x10, .inr (.inr (some 15))], mH a2 b) _
        refine w_invV (rest := [.inl r, .inl 1, .inr (.inr (some 0)), .inl x11, .inl x10, .inr (.inr (some 15))]) rfl rfl rfl rfl rfl (Nat.le_of_ble_eq_true rfl) rfl (by omega) (s_mouthFlow (K := K) a2 b  q r x14 hR2 (by omega) (by omega) (by omega) ((hA.same (fun r9 _ => hS _ (by omega))))) (fun v15 h9 hq16 => ?_)
        obtain ⟨rfl, x17, rfl, px17⟩ := hq16
        show f_wp _ (36, [some (.inr (.inr (some 0))), some (.inl q), some (.inl r)], [.inl x17, .inl r, .inl 1, .inr (.inr (some 0)), .inl x11, .inl x10, .inr (.inr (some 15))], mH a2 b) _
        refine w_const rfl ?_
        refine w_invV (rest := [.inl x11, .inl x10, .inr (.inr (some 15))]) rfl rfl rfl rfl rfl (Nat.le_of_ble_eq_true rfl) rfl (by omega) (s_lawOf (K := K) a2 b  1 r x17 0 hR2 (Or.inr rfl) (by omega) (CDI.fr hC ((hF2) : FR [13, 14, 15] a a2) (by decide) (by decide) (by decide))) (fun v18 h9 hq19 => ?_)
        obtain ⟨a20, rfl, ha20, fa20, x21, rfl, px21⟩ := hq19
        show f_wp _ (40, [some (.inr (.inr (some 0))), some (.inl q), some (.inl r)], [.inl x21, .inl x11, .inl x10, .inr (.inr (some 15))], mH a20 b) _
        first | refine w_iadd rfl (by omega) (fun x22 tx22 => ?_) | refine w_iiU rfl (fun x22 tx22 => ?_)
        refine m_iast rfl rfl (by omega) (fun a23 ea23 => ?_)
        have ha23 : RM K a23 := RM.up ha20 ea23 (st_any _ (by omega))
        refine w_iinc (lo' := fun z9 => [some (.inr (.inr (some 0))), some (.inl q), some (.inl z9)]) rfl rfl (fun _ => rfl) (by omega) (fun x24 tx24 => ?_)
        refine w_goto rfl ?_
        exact ih2 (6 - x24.toInt).toNat (by omega) x24 a23 rfl ha23 (FR.up (FR.tr (hF2) (FR.sub fa20.1 (by decide))) (by decide) ea23) (fun (m9 : Nat) (l9 : m9 < 22) (h7 : ACm m9 a) => ACm.put ((fun (m9 : Nat) (l9 : m9 < 22) (h7 : ACm m9 a) => ACm.fr ((hC2) m9 l9 h7) fa20.1 (by decide)) m9 l9 h7) ea23 (by omega)) (by omega) (fun j hj => by rw [ea23, mU_slot (by omega), fa20.1 15 (by decide)]; exact hS j hj)
  exact loop2 _ 0 a rfl hR (FR.rf) (fun (m9 : Nat) (l9 : m9 < 22) (h7 : ACm m9 a) => h7) (by omega) (fun j _ => rfl)
set_option maxRecDepth 4000 in
theorem s_seasons {K : Nat} (a : Nat → Nat → Int32) (b : Nat → Nat → Int64) (n : Int32) (hR : RM K a) (hA : AC a 0) (hC : CDI a) (hU : (a 0 23).toInt = 16 → ∀ m, m < 16 → AC a (60 * (5 + m))) (hK : (a 15 0).toInt + 100 ≤ 100 * K ∧ K ≤ 10000) : f_call mtM 14 76 [.inr (.inr (some 0)), .inl n] (mH a b) (fun v9 h' => ∃ (a' : Nat → Nat → Int32), h' = mH a' b ∧ RM K a' ∧ (FR [0, 13, 14, 15] a a' ∧ (∀ m9, m9 < 22 → ACm m9 a → ACm m9 a') ∧ UX a a') ∧ ∃ x : Int32, v9 = some (.inl x) ∧ True) := by
  refine f_call_of (d0 := 13) rfl (Nat.le_of_ble_eq_true rfl) (fun d hd => ?_)
  show f_wp _ (0, [some (.inr (.inr (some 0))), some (.inl n), none], [], mH a b) _
  have lm1 : (-1 : Int32).toInt = -1 := rfl
  have l0 : (0 : Int32).toInt = 0 := rfl
  have l1 : (1 : Int32).toInt = 1 := rfl
  have l100 : (100 : Int32).toInt = 100 := rfl
  have k0 := RM.now hR (j := 0) (by decide)
  refine w_aload rfl rfl ?_
  refine w_const rfl ?_
  refine m_putI (z := false) rfl rfl rfl rfl (by first | (intro h9; cases h9; done) | (intro _; first | exact Or.inl rfl | exact Or.inr rfl | assumption)) (fun a1 ea1 => ?_)
  have ha1 : RM K a1 := RM.up hR ea1 ⟨ti_lo _, ti_hi _⟩
  have ua1_0 : a1 0 0 = (0 : Int32) := by rw [ea1, mU_same]
  have wa1_0 := congrArg Int32.toInt ua1_0
  refine w_iload rfl rfl ?_
  refine w_const rfl ?_
  refine w_const rfl ?_
  refine w_invS (rest := []) rfl (Nat.le_of_ble_eq_true rfl) rfl (Nat.le_of_ble_eq_true rfl) rfl (by omega) (s_within (K := K) a1 b  n 1 100  ) (fun v2 h9 hq3 => ?_)
  obtain ⟨rfl, x4, rfl, px4⟩ := hq3
  show f_wp _ (12, [some (.inr (.inr (some 0))), some (.inl n), none], [.inl x4], mH a1 b) _
  refine w_if_ne rfl (fun c5 => ?_) (fun c5 => ?_)
  · skip
    refine w_const rfl ?_
    exact wp_iret (z := false) rfl (fun h9 => by cases h9) ⟨a1, rfl, ha1, ⟨FR.up (FR.rf) (by decide) ea1, fun (m9 : Nat) (l9 : m9 < 22) (h7 : ACm m9 a) => ACm.up ((fun (m9 : Nat) (l9 : m9 < 22) (h7 : ACm m9 a) => h7) m9 l9 h7) ea1 (by decide), Or.inl (by rw [ea1, mU_slot (by decide)]; exact Int.le_refl _)⟩, ⟨_, rfl, trivial⟩⟩
  · skip
    refine w_aload rfl rfl ?_
    refine w_invV (rest := []) rfl rfl rfl rfl rfl (Nat.le_of_ble_eq_true rfl) rfl (by omega) (s_keeps (K := K) a1 b   ha1 (((fun (m9 : Nat) (l9 : m9 < 22) (h7 : ACm m9 a) => ACm.up ((fun (m9 : Nat) (l9 : m9 < 22) (h7 : ACm m9 a) => h7) m9 l9 h7) ea1 (by decide)) 0 (by decide) hA)) (fun u8 m8 l8 => AC.at ((fun (m9 : Nat) (l9 : m9 < 22) (h7 : ACm m9 a) => ACm.up ((fun (m9 : Nat) (l9 : m9 < 22) (h7 : ACm m9 a) => h7) m9 l9 h7) ea1 (by decide)) (5 + m8) (by omega) (hU (by rw [ea1, mU_slot (by decide)] at u8; exact u8) m8 l8)) rfl)) (fun v6 h9 hq7 => ?_)
    obtain ⟨a8, rfl, ha8, fa8, rfl⟩ := hq7
    show f_wp _ (21, [some (.inr (.inr (some 0))), some (.inl n), none], [], mH a8 b) _
    refine w_const rfl ?_
    refine w_istore (lo' := [some (.inr (.inr (some 0))), some (.inl n), some (.inl 0)]) rfl rfl ?_
    have loop23 : ∀ (ms9 : Nat) (i : Int32) (a23 : Nat → Nat → Int32) , (n.toInt - i.toInt).toNat = ms9 → RM K a23 → FR [0, 13, 14, 15] a a23 → (∀ m9, m9 < 22 → ACm m9 a → ACm m9 a23) → (0 ≤ i.toInt ∧ i.toInt ≤ n.toInt ∧ n.toInt ≤ 100) → ((a23 15 0).toInt ≤ (a 15 0).toInt + i.toInt) → (1 ≤ (a23 0 23).toInt ∧ (a23 0 23).toInt ≤ (a 0 23).toInt + 1 ∧ (a23 0 23).toInt ≤ 16 ∧ AC a23 (60 * (4 + (a23 0 23).toInt.toNat))) → f_wp (f_code (t_X13_seasons (f_ev mtM d))) (23, [some (.inr (.inr (some 0))), some (.inl n), some (.inl i)], [], mH a23 b) (fun v9 h' => ∃ (a' : Nat → Nat → Int32), h' = mH a' b ∧ RM K a' ∧ (FR [0, 13, 14, 15] a a' ∧ (∀ m9, m9 < 22 → ACm m9 a → ACm m9 a') ∧ UX a a') ∧ ∃ x : Int32, v9 = some (.inl x) ∧ True) := by
      intro ms9
      induction ms9 using Nat.strongRecOn with
      | _ ms23 ih23 =>
        intro i a23  hm23 hR23 hF23 hC23 hi hN hX
        refine w_iload rfl rfl ?_
        refine w_iload rfl rfl ?_
        refine w_ic_ge rfl (fun c9 => ?_) (fun c9 => ?_)
        · skip
          refine w_aload rfl rfl ?_
          refine w_getR (v := .inr (.inr (some 15))) rfl rfl rfl rfl rfl ?_
          refine w_const rfl ?_
          refine m_iald rfl rfl (by omega) (fun x10 ex10 => ?_)
          exact wp_iret (z := false) rfl (fun h9 => by cases h9) ⟨a23, rfl, hR23, ⟨hF23, hC23, Or.inr ⟨hX.1, hX.2.1, hX.2.2.2⟩⟩, ⟨_, rfl, trivial⟩⟩
        · skip
          refine w_aload rfl rfl ?_
          refine w_const rfl ?_
          refine w_invV (rest := []) rfl rfl rfl rfl rfl (Nat.le_of_ble_eq_true rfl) rfl (by omega) (s_passes (K := K) a23 b  0 hR23 (by omega) (((hC23) 0 (by decide) hA)) (CDI.fr hC ((hF23) : FR [0, 13, 14, 15] a a23) (by decide) (by decide) (by decide)) (by rw [show (0 : Int32).toInt.toNat = 0 from rfl]; omega)) (fun v11 h9 hq12 => ?_)
          obtain ⟨a13, rfl, ha13, fa13, rfl⟩ := hq12
          show f_wp _ (33, [some (.inr (.inr (some 0))), some (.inl n), some (.inl i)], [], mH a13 b) _
          refine w_iinc (lo' := fun z9 => [some (.inr (.inr (some 0))), some (.inl n), some (.inl z9)]) rfl rfl (fun _ => rfl) (by omega) (fun x14 tx14 => ?_)
          refine w_goto rfl ?_
          exact ih23 (n.toInt - x14.toInt).toNat (by omega) x14 a13 rfl ha13 (FR.tr (hF23) (FR.sub fa13.1 (by decide))) (fun (m9 : Nat) (l9 : m9 < 22) (h7 : ACm m9 a) => fa13.2.1 m9 (by omega) ((hC23) m9 l9 h7)) (by omega) (by have m9 : (a13 15 0).toInt = (a23 15 0).toInt + 1 := fa13.2.2.1; omega) (by rw [fa13.1 0 (by decide)]; exact ⟨hX.1, hX.2.1, hX.2.2.1, fa13.2.1 (4 + (a23 0 23).toInt.toNat) (by omega) hX.2.2.2⟩)
    exact loop23 _ 0 a8 rfl ha8 (FR.tr (FR.up (FR.rf) (by decide) ea1) (FR.sub fa8.1 (by decide))) (fun (m9 : Nat) (l9 : m9 < 22) (h7 : ACm m9 a) => fa8.2.1 m9 (by omega) ((fun (m9 : Nat) (l9 : m9 < 22) (h7 : ACm m9 a) => ACm.up ((fun (m9 : Nat) (l9 : m9 < 22) (h7 : ACm m9 a) => h7) m9 l9 h7) ea1 (by decide)) m9 l9 h7)) (by omega) (by rw [fa8.2.2.1 0 (by decide), ea1, mU_cell (by decide)]; omega) (⟨fa8.2.2.2.2.2.1, by have z8 := fa8.2.2.2.2.2.2.1; rw [ea1, mU_slot (by decide)] at z8; exact z8, (ha8 0 23).2, fa8.2.2.2.2.2.2.2⟩)
set_option maxRecDepth 4000 in
theorem s_wed {K : Nat} (a : Nat → Nat → Int32) (b : Nat → Nat → Int64) (w : Int32) (h : Int32) (hR : RM K a) (hA : AC a 0) (hC : CDI a) (hU : (a 0 23).toInt = 16 → ∀ m, m < 16 → AC a (60 * (5 + m))) : f_call mtM 14 73 [.inr (.inr (some 0)), .inl w, .inl h] (mH a b) (fun v9 h' => ∃ (a' : Nat → Nat → Int32), h' = mH a' b ∧ RM K a' ∧ (FR [0, 13, 14, 15, 17] a a' ∧ (∀ m9, m9 < 22 → ACm m9 a → ACm m9 a') ∧ UX a a') ∧ ∃ x : Int32, v9 = some (.inl x) ∧ True) := by
  refine f_call_of (d0 := 13) rfl (Nat.le_of_ble_eq_true rfl) (fun d hd => ?_)
  show f_wp _ (0, [some (.inr (.inr (some 0))), some (.inl w), some (.inl h)], [], mH a b) _
  have lm1 : (-1 : Int32).toInt = -1 := rfl
  have l0 : (0 : Int32).toInt = 0 := rfl
  refine w_aload rfl rfl ?_
  refine w_const rfl ?_
  refine m_putI (z := false) rfl rfl rfl rfl (by first | (intro h9; cases h9; done) | (intro _; first | exact Or.inl rfl | exact Or.inr rfl | assumption)) (fun a1 ea1 => ?_)
  have ha1 : RM K a1 := RM.up hR ea1 ⟨ti_lo _, ti_hi _⟩
  have ua1_0 : a1 0 0 = (0 : Int32) := by rw [ea1, mU_same]
  have wa1_0 := congrArg Int32.toInt ua1_0
  refine w_aload rfl rfl ?_
  refine w_iload rfl rfl ?_
  refine w_invV (rest := []) rfl rfl rfl rfl rfl (Nat.le_of_ble_eq_true rfl) rfl (by omega) (s_isRiver (K := K) a1 b  w ha1 ) (fun v2 h9 hq3 => ?_)
  obtain ⟨rfl, x4, rfl, px4⟩ := hq3
  show f_wp _ (10, [some (.inr (.inr (some 0))), some (.inl w), some (.inl h)], [.inl x4], mH a1 b) _
  refine w_if_eq rfl (fun c5 => ?_) (fun c5 => ?_)
  · skip
    refine w_const rfl ?_
    exact wp_iret (z := false) rfl (fun h9 => by cases h9) ⟨a1, rfl, ha1, ⟨FR.up (FR.rf) (by decide) ea1, fun (m9 : Nat) (l9 : m9 < 22) (h7 : ACm m9 a) => ACm.up ((fun (m9 : Nat) (l9 : m9 < 22) (h7 : ACm m9 a) => h7) m9 l9 h7) ea1 (by decide), Or.inl (by rw [ea1, mU_slot (by decide)]; exact Int.le_refl _)⟩, ⟨_, rfl, trivial⟩⟩
  · skip
    refine w_aload rfl rfl ?_
    refine w_iload rfl rfl ?_
    refine w_invV (rest := []) rfl rfl rfl rfl rfl (Nat.le_of_ble_eq_true rfl) rfl (by omega) (s_isRiver (K := K) a1 b  h ha1 ) (fun v6 h9 hq7 => ?_)
    obtain ⟨rfl, x8, rfl, px8⟩ := hq7
    show f_wp _ (18, [some (.inr (.inr (some 0))), some (.inl w), some (.inl h)], [.inl x8], mH a1 b) _
    refine w_if_eq rfl (fun c9 => ?_) (fun c9 => ?_)
    · skip
      refine w_const rfl ?_
      exact wp_iret (z := false) rfl (fun h9 => by cases h9) ⟨a1, rfl, ha1, ⟨FR.up (FR.rf) (by decide) ea1, fun (m9 : Nat) (l9 : m9 < 22) (h7 : ACm m9 a) => ACm.up ((fun (m9 : Nat) (l9 : m9 < 22) (h7 : ACm m9 a) => h7) m9 l9 h7) ea1 (by decide), Or.inl (by rw [ea1, mU_slot (by decide)]; exact Int.le_refl _)⟩, ⟨_, rfl, trivial⟩⟩
    · skip
      refine w_aload rfl rfl ?_
      refine w_const rfl ?_
      refine w_iload rfl rfl ?_
      refine w_iload rfl rfl ?_
      refine w_invV (rest := []) rfl rfl rfl rfl rfl (Nat.le_of_ble_eq_true rfl) rfl (by omega) (s_mayWed (K := K) a1 b  0 w h ha1 (by omega) (by omega) (by omega) (((fun (m9 : Nat) (l9 : m9 < 22) (h7 : ACm m9 a) => ACm.up ((fun (m9 : Nat) (l9 : m9 < 22) (h7 : ACm m9 a) => h7) m9 l9 h7) ea1 (by decide)) 0 (by decide) hA))) (fun v10 h9 hq11 => ?_)
      obtain ⟨a12, rfl, ha12, fa12, x13, rfl, px13⟩ := hq11
      show f_wp _ (28, [some (.inr (.inr (some 0))), some (.inl w), some (.inl h)], [.inl x13], mH a12 b) _
      have pw := px13
      have ar := ha12
      have aa := a12
      refine w_if_ne rfl (fun c14 => ?_) (fun c14 => ?_)
      · skip
        refine w_const rfl ?_
        exact wp_iret (z := false) rfl (fun h9 => by cases h9) ⟨a12, rfl, ha12, ⟨FR.tr (FR.up (FR.rf) (by decide) ea1) (FR.sub fa12.1 (by decide)), fun (m9 : Nat) (l9 : m9 < 22) (h7 : ACm m9 a) => ACm.fr ((fun (m9 : Nat) (l9 : m9 < 22) (h7 : ACm m9 a) => ACm.up ((fun (m9 : Nat) (l9 : m9 < 22) (h7 : ACm m9 a) => h7) m9 l9 h7) ea1 (by decide)) m9 l9 h7) fa12.1 (by decide), Or.inl (by rw [fa12.1 0 (by decide), ea1, mU_slot (by decide)]; exact Int.le_refl _)⟩, ⟨_, rfl, trivial⟩⟩
      · skip
        refine w_aload rfl rfl ?_
        refine w_invV (rest := []) rfl rfl rfl rfl rfl (Nat.le_of_ble_eq_true rfl) rfl (by omega) (s_keeps (K := K) a12 b   ha12 (((fun (m9 : Nat) (l9 : m9 < 22) (h7 : ACm m9 a) => ACm.fr ((fun (m9 : Nat) (l9 : m9 < 22) (h7 : ACm m9 a) => ACm.up ((fun (m9 : Nat) (l9 : m9 < 22) (h7 : ACm m9 a) => h7) m9 l9 h7) ea1 (by decide)) m9 l9 h7) fa12.1 (by decide)) 0 (by decide) hA)) (fun u8 m8 l8 => AC.at ((fun (m9 : Nat) (l9 : m9 < 22) (h7 : ACm m9 a) => ACm.fr ((fun (m9 : Nat) (l9 : m9 < 22) (h7 : ACm m9 a) => ACm.up ((fun (m9 : Nat) (l9 : m9 < 22) (h7 : ACm m9 a) => h7) m9 l9 h7) ea1 (by decide)) m9 l9 h7) fa12.1 (by decide)) (5 + m8) (by omega) (hU (by rw [fa12.1 0 (by decide), ea1, mU_slot (by decide)] at u8; exact u8) m8 l8)) rfl)) (fun v15 h9 hq16 => ?_)
        obtain ⟨a17, rfl, ha17, fa17, rfl⟩ := hq16
        show f_wp _ (37, [some (.inr (.inr (some 0))), some (.inl w), some (.inl h)], [], mH a17 b) _
        refine w_aload rfl rfl ?_
        refine w_const rfl ?_
        refine w_iload rfl rfl ?_
        refine w_iload rfl rfl ?_
        refine w_invV (rest := []) rfl rfl rfl rfl rfl (Nat.le_of_ble_eq_true rfl) rfl (by omega) (s_weds (K := K) a17 b  0 w h ha17 (by omega) (by omega) (by omega) (((fun (m9 : Nat) (l9 : m9 < 22) (h7 : ACm m9 a) => fa17.2.1 m9 (by omega) ((fun (m9 : Nat) (l9 : m9 < 22) (h7 : ACm m9 a) => ACm.fr ((fun (m9 : Nat) (l9 : m9 < 22) (h7 : ACm m9 a) => ACm.up ((fun (m9 : Nat) (l9 : m9 < 22) (h7 : ACm m9 a) => h7) m9 l9 h7) ea1 (by decide)) m9 l9 h7) fa12.1 (by decide)) m9 l9 h7)) 0 (by decide) hA)) (CDI.fr hC ((FR.tr (FR.tr (FR.up (FR.rf) (by decide) ea1) (FR.sub fa12.1 (by decide))) (FR.sub fa17.1 (by decide))) : FR [0, 13, 14, 15, 17] a a17) (by decide) (by decide) (by decide)) (by obtain ⟨-, -, -, m7⟩ := pw.resolve_right (by omega); intro k9; have m6 := (itr_same (a' := a17) ha1 (q := 0) (h := h.toInt.toNat) (by decide) (by omega) (fun r9 h9 => by rw [fa17.2.2.1 _ (by omega), fa12.1 15 (by decide)]) k9).1; show itr a17 0 k9 h.toInt.toNat ≠ _; rw [m6]; exact m7 k9)) (fun v18 h9 hq19 => ?_)
        obtain ⟨a20, rfl, ha20, fa20, x21, rfl, px21⟩ := hq19
        show f_wp _ (44, [some (.inr (.inr (some 0))), some (.inl w), some (.inl h)], [.inl x21], mH a20 b) _
        exact wp_iret (z := false) rfl (fun h9 => by cases h9) ⟨a20, rfl, ha20, ⟨FR.tr (FR.tr (FR.tr (FR.up (FR.rf) (by decide) ea1) (FR.sub fa12.1 (by decide))) (FR.sub fa17.1 (by decide))) (FR.sub fa20.1 (by decide)), fun (m9 : Nat) (l9 : m9 < 22) (h7 : ACm m9 a) => fa20.2.1 m9 (by omega) ((fun (m9 : Nat) (l9 : m9 < 22) (h7 : ACm m9 a) => fa17.2.1 m9 (by omega) ((fun (m9 : Nat) (l9 : m9 < 22) (h7 : ACm m9 a) => ACm.fr ((fun (m9 : Nat) (l9 : m9 < 22) (h7 : ACm m9 a) => ACm.up ((fun (m9 : Nat) (l9 : m9 < 22) (h7 : ACm m9 a) => h7) m9 l9 h7) ea1 (by decide)) m9 l9 h7) fa12.1 (by decide)) m9 l9 h7)) m9 l9 h7), Or.inr ⟨by rw [fa20.1 0 (by decide)]; exact fa17.2.2.2.2.2.1, by rw [fa20.1 0 (by decide)]; have z8 := fa17.2.2.2.2.2.2.1; rw [fa12.1 0 (by decide), ea1, mU_slot (by decide)] at z8; exact z8, by rw [fa20.1 0 (by decide)]; exact fa20.2.1 (4 + (a17 0 23).toInt.toNat) (by have q8 : 0 ≤ (a17 0 23).toInt ∧ (a17 0 23).toInt ≤ 16 := ha17 0 23; omega) fa17.2.2.2.2.2.2.2⟩⟩, ⟨_, rfl, trivial⟩⟩
set_option maxRecDepth 4000 in
theorem s_judged {K : Nat} (a : Nat → Nat → Int32) (b : Nat → Nat → Int64) (w : Int32) (hR : RM K a) (hA : AC a 0) (hC : CDI a) (hL : LNI a) (hK : 1 ≤ K ∧ K ≤ 10000) : f_call mtM 14 79 [.inr (.inr (some 0)), .inl w] (mH a b) (fun v9 h' => ∃ (a' : Nat → Nat → Int32), h' = mH a' b ∧ RM K a' ∧ (FR [0, 13, 14, 15, 17] a a' ∧ (∀ m9, m9 < 21 → ACm m9 a → ACm m9 a') ∧ True) ∧ ∃ x : Int32, v9 = some (.inl x) ∧ True) := by
  refine f_call_of (d0 := 13) rfl (Nat.le_of_ble_eq_true rfl) (fun d hd => ?_)
  show f_wp _ (0, [some (.inr (.inr (some 0))), some (.inl w), none, none, none, none, none, none, none], [], mH a b) _
  have lm2 : (-2 : Int32).toInt = -2 := rfl
  have lm1 : (-1 : Int32).toInt = -1 := rfl
  have l0 : (0 : Int32).toInt = 0 := rfl
  have l1 : (1 : Int32).toInt = 1 := rfl
  have l2 : (2 : Int32).toInt = 2 := rfl
  have l3 : (3 : Int32).toInt = 3 := rfl
  have l1260 : (1260 : Int32).toInt = 1260 := rfl
  have l1261 : (1261 : Int32).toInt = 1261 := rfl
  have k11 := RM.lin hR
  refine w_aload rfl rfl ?_
  refine w_const rfl ?_
  refine m_putI (z := false) rfl rfl rfl rfl (by first | (intro h9; cases h9; done) | (intro _; first | exact Or.inl rfl | exact Or.inr rfl | assumption)) (fun a1 ea1 => ?_)
  have ha1 : RM K a1 := RM.up hR ea1 ⟨ti_lo _, ti_hi _⟩
  have ua1_0 : a1 0 0 = (0 : Int32) := by rw [ea1, mU_same]
  have wa1_0 := congrArg Int32.toInt ua1_0
  refine w_iload rfl rfl ?_
  refine w_const rfl ?_
  refine w_const rfl ?_
  refine w_invS (rest := []) rfl (Nat.le_of_ble_eq_true rfl) rfl (Nat.le_of_ble_eq_true rfl) rfl (by omega) (s_within (K := K) a1 b  w 0 2  ) (fun v2 h9 hq3 => ?_)
  obtain ⟨rfl, x4, rfl, px4⟩ := hq3
  show f_wp _ (11, [some (.inr (.inr (some 0))), some (.inl w), none, none, none, none, none, none, none], [.inl x4], mH a1 b) _
  refine w_if_ne rfl (fun c5 => ?_) (fun c5 => ?_)
  · skip
    refine w_const rfl ?_
    exact wp_iret (z := false) rfl (fun h9 => by cases h9) ⟨a1, rfl, ha1, ⟨FR.up (FR.rf) (by decide) ea1, fun (m9 : Nat) (l9 : m9 < 21) (h7 : ACm m9 a) => ACm.up ((fun (m9 : Nat) (l9 : m9 < 21) (h7 : ACm m9 a) => h7) m9 l9 h7) ea1 (by decide), trivial⟩, ⟨_, rfl, trivial⟩⟩
  · skip
    refine w_aload rfl rfl ?_
    refine w_const rfl ?_
    refine w_invV (rest := []) rfl rfl rfl rfl rfl (Nat.le_of_ble_eq_true rfl) rfl (by omega) (s_starts_0 (K := K) a1 b  1260 ha1 (by omega)) (fun v6 h9 hq7 => ?_)
    obtain ⟨a8, rfl, ha8, fa8, rfl⟩ := hq7
    show f_wp _ (24, [some (.inr (.inr (some 0))), some (.inl w), none, none, none, none, none, none, none], [], mH a8 b) _
    refine w_const rfl ?_
    refine w_istore (lo' := [some (.inr (.inr (some 0))), some (.inl w), some (.inl (-1)), none, none, none, none, none, none]) rfl rfl ?_
    refine w_const rfl ?_
    refine w_istore (lo' := [some (.inr (.inr (some 0))), some (.inl w), some (.inl (-1)), some (.inl (-1)), none, none, none, none, none]) rfl rfl ?_
    refine w_const rfl ?_
    refine w_istore (lo' := [some (.inr (.inr (some 0))), some (.inl w), some (.inl (-1)), some (.inl (-1)), some (.inl 0), none, none, none, none]) rfl rfl ?_
    have loop31 : ∀ (ms9 : Nat) (b1 : Int32) (b2 : Int32) (k : Int32) (a31 : Nat → Nat → Int32) (o5_31 : Option f_V) (o6_31 : Option f_V) (o7_31 : Option f_V) (o8_31 : Option f_V), (24 - k.toInt).toNat = ms9 → RM K a31 → FR [0, 13, 14, 15, 17] a a31 → (∀ m9, m9 < 21 → ACm m9 a → ACm m9 a31) → (0 ≤ k.toInt ∧ k.toInt ≤ 24) → ((a31 15 1260).toInt ≤ k.toInt) → (AC a31 1260) → f_wp (f_code (t_X13_judged (f_ev mtM d))) (31, [some (.inr (.inr (some 0))), some (.inl w), some (.inl b1), some (.inl b2), some (.inl k), o5_31, o6_31, o7_31, o8_31], [], mH a31 b) (fun v9 h' => ∃ (a' : Nat → Nat → Int32), h' = mH a' b ∧ RM K a' ∧ (FR [0, 13, 14, 15, 17] a a' ∧ (∀ m9, m9 < 21 → ACm m9 a → ACm m9 a') ∧ True) ∧ ∃ x : Int32, v9 = some (.inl x) ∧ True) := by
      intro ms9
      induction ms9 using Nat.strongRecOn with
      | _ ms31 ih31 =>
        intro b1 b2 k a31 o5_31 o6_31 o7_31 o8_31 hm31 hR31 hF31 hC31 hk hN hD31
        refine w_iload rfl rfl ?_
        refine w_aload rfl rfl ?_
        refine w_getR (v := .inr (.inr (some 11))) rfl rfl rfl rfl rfl ?_
        refine w_const rfl ?_
        refine m_iald rfl rfl (by omega) (fun x9 ex9 => ?_)
        have n9 : x9.toInt = (a 11 0).toInt := congrArg Int32.toInt (Eq.trans ex9 (congrFun (hF31 11 (by decide)) 0))
        refine w_ic_ge rfl (fun c10 => ?_) (fun c10 => ?_)
        · skip
          refine w_iload rfl rfl ?_
          refine w_if_ne rfl (fun c11 => ?_) (fun c11 => ?_)
          · skip
            refine w_iload rfl rfl ?_
            refine w_goto rfl ?_
            exact wp_iret (z := false) rfl (fun h9 => by cases h9) ⟨a31, rfl, hR31, ⟨hF31, hC31, trivial⟩, ⟨_, rfl, trivial⟩⟩
          · skip
            refine w_iload rfl rfl ?_
            refine w_const rfl ?_
            refine w_ic_ne rfl (fun c12 => ?_) (fun c12 => ?_)
            · skip
              refine w_iload rfl rfl ?_
              refine w_goto rfl ?_
              exact wp_iret (z := false) rfl (fun h9 => by cases h9) ⟨a31, rfl, hR31, ⟨hF31, hC31, trivial⟩, ⟨_, rfl, trivial⟩⟩
            · skip
              refine w_aload rfl rfl ?_
              refine w_const rfl ?_
              refine w_invV (rest := []) rfl rfl rfl rfl rfl (Nat.le_of_ble_eq_true rfl) rfl (by omega) (s_weddings (K := K) a31 b  1260 hR31 (by omega)) (fun v13 h9 hq14 => ?_)
              obtain ⟨rfl, x15, rfl, px15⟩ := hq14
              show f_wp _ (270, [some (.inr (.inr (some 0))), some (.inl w), some (.inl b1), some (.inl b2), some (.inl k), o5_31, o6_31, o7_31, o8_31], [.inl x15], mH a31 b) _
              exact wp_iret (z := false) rfl (fun h9 => by cases h9) ⟨a31, rfl, hR31, ⟨hF31, hC31, trivial⟩, ⟨_, rfl, trivial⟩⟩
        · skip
          refine w_aload rfl rfl ?_
          refine w_getR (v := .inr (.inr (some 11))) rfl rfl rfl rfl rfl ?_
          refine w_const rfl ?_
          refine w_const rfl ?_
          refine w_iload rfl rfl ?_
          first | refine w_imul rfl (c := 3) rfl (by omega) (fun x16 tx16 => ?_) | refine w_iiU rfl (fun x16 tx16 => ?_)
          first | refine w_iadd rfl (by omega) (fun x17 tx17 => ?_) | refine w_iiU rfl (fun x17 tx17 => ?_)
          refine m_iald rfl rfl (by omega) (fun x18 ex18 => ?_)
          have v5 : x18.toInt = (a 11 (1 + 3 * k.toInt.toNat)).toInt := by rw [ex18, hF31 11 (by decide), show (x17).toInt.toNat = 1 + 3 * k.toInt.toNat from by omega]
          refine w_istore (lo' := [some (.inr (.inr (some 0))), some (.inl w), some (.inl b1), some (.inl b2), some (.inl k), some (.inl x18), o6_31, o7_31, o8_31]) rfl rfl ?_
          refine w_aload rfl rfl ?_
          refine w_getR (v := .inr (.inr (some 11))) rfl rfl rfl rfl rfl ?_
          refine w_const rfl ?_
          refine w_const rfl ?_
          refine w_iload rfl rfl ?_
          first | refine w_imul rfl (c := 3) rfl (by omega) (fun x19 tx19 => ?_) | refine w_iiU rfl (fun x19 tx19 => ?_)
          first | refine w_iadd rfl (by omega) (fun x20 tx20 => ?_) | refine w_iiU rfl (fun x20 tx20 => ?_)
          refine m_iald rfl rfl (by omega) (fun x21 ex21 => ?_)
          have v6 : x21.toInt = (a 11 (2 + 3 * k.toInt.toNat)).toInt := by rw [ex21, hF31 11 (by decide), show (x20).toInt.toNat = 2 + 3 * k.toInt.toNat from by omega]
          refine w_istore (lo' := [some (.inr (.inr (some 0))), some (.inl w), some (.inl b1), some (.inl b2), some (.inl k), some (.inl x18), some (.inl x21), o7_31, o8_31]) rfl rfl ?_
          refine w_aload rfl rfl ?_
          refine w_getR (v := .inr (.inr (some 11))) rfl rfl rfl rfl rfl ?_
          refine w_const rfl ?_
          refine w_const rfl ?_
          refine w_iload rfl rfl ?_
          first | refine w_imul rfl (c := 3) rfl (by omega) (fun x22 tx22 => ?_) | refine w_iiU rfl (fun x22 tx22 => ?_)
          first | refine w_iadd rfl (by omega) (fun x23 tx23 => ?_) | refine w_iiU rfl (fun x23 tx23 => ?_)
          refine m_iald rfl rfl (by omega) (fun x24 ex24 => ?_)
          have v7 : x24.toInt = (a 11 (3 + 3 * k.toInt.toNat)).toInt := by rw [ex24, hF31 11 (by decide), show (x23).toInt.toNat = 3 + 3 * k.toInt.toNat from by omega]
          have L9 : ((a 11 (1 + 3 * k.toInt.toNat)).toInt = 2 ∨ 0 ≤ (a 11 (2 + 3 * k.toInt.toNat)).toInt) ∧ ((a 11 (1 + 3 * k.toInt.toNat)).toInt ≠ 0 ∨ 0 ≤ (a 11 (3 + 3 * k.toInt.toNat)).toInt) := hL k.toInt.toNat (by omega)
          have r5 := RM.lin1 hR (j := 1 + 3 * k.toInt.toNat) (by omega)
          have r6 := RM.lin1 hR (j := 2 + 3 * k.toInt.toNat) (by omega)
          have r7 := RM.lin1 hR (j := 3 + 3 * k.toInt.toNat) (by omega)
          refine w_istore (lo' := [some (.inr (.inr (some 0))), some (.inl w), some (.inl b1), some (.inl b2), some (.inl k), some (.inl x18), some (.inl x21), some (.inl x24), o8_31]) rfl rfl ?_
          have loop191 : ∀ (ms9 : Nat) (ok : Int32) (a191 : Nat → Nat → Int32) , ((0 : Int)).toNat = ms9 → RM K a191 → FR [0, 13, 14, 15, 17] a a191 → (∀ m9, m9 < 21 → ACm m9 a → ACm m9 a191) → ((a191 15 1260).toInt ≤ k.toInt + 1) → (AC a191 1260) → f_wp (f_code (t_X13_judged (f_ev mtM d))) (191, [some (.inr (.inr (some 0))), some (.inl w), some (.inl b1), some (.inl b2), some (.inl k), some (.inl x18), some (.inl x21), some (.inl x24), some (.inl ok)], [], mH a191 b) (fun v9 h' => ∃ (a' : Nat → Nat → Int32), h' = mH a' b ∧ RM K a' ∧ (FR [0, 13, 14, 15, 17] a a' ∧ (∀ m9, m9 < 21 → ACm m9 a → ACm m9 a') ∧ True) ∧ ∃ x : Int32, v9 = some (.inl x) ∧ True) := by
            intro ms9
            induction ms9 using Nat.strongRecOn with
            | _ ms191 ih191 =>
              intro ok a191  hm191 hR191 hF191 hC191 hN9 hD191
              refine w_iload rfl rfl ?_
              refine w_if_ne rfl (fun c25 => ?_) (fun c25 => ?_)
              · skip
                refine w_iload rfl rfl ?_
                refine w_if_ge rfl (fun c26 => ?_) (fun c26 => ?_)
                · skip
                  refine w_iload rfl rfl ?_
                  refine w_istore (lo' := [some (.inr (.inr (some 0))), some (.inl w), some (.inl b1), some (.inl b2), some (.inl k), some (.inl x18), some (.inl x21), some (.inl x24), some (.inl ok)]) rfl rfl ?_
                  refine w_iload rfl rfl ?_
                  refine w_if_eq rfl (fun c27 => ?_) (fun c27 => ?_)
                  · skip
                    refine w_iload rfl rfl ?_
                    refine w_istore (lo' := [some (.inr (.inr (some 0))), some (.inl w), some (.inl b1), some (.inl b2), some (.inl k), some (.inl x18), some (.inl x21), some (.inl x24), some (.inl ok)]) rfl rfl ?_
                    refine w_iinc (lo' := fun z9 => [some (.inr (.inr (some 0))), some (.inl w), some (.inl b1), some (.inl b2), some (.inl z9), some (.inl x18), some (.inl x21), some (.inl x24), some (.inl ok)]) rfl rfl (fun _ => rfl) (by omega) (fun x28 tx28 => ?_)
                    refine w_goto rfl ?_
                    exact ih31 (24 - x28.toInt).toNat (by omega) b1 b2 x28 a191 (some (.inl x18)) (some (.inl x21)) (some (.inl x24)) (some (.inl ok)) rfl hR191 (hF191) (hC191) (by omega) (by omega) ((hD191))
                  · skip
                    refine w_iload rfl rfl ?_
                    refine w_if_ge rfl (fun c29 => ?_) (fun c29 => ?_)
                    · skip
                      refine w_iload rfl rfl ?_
                      refine w_istore (lo' := [some (.inr (.inr (some 0))), some (.inl w), some (.inl b1), some (.inl b2), some (.inl k), some (.inl x18), some (.inl x21), some (.inl x24), some (.inl ok)]) rfl rfl ?_
                      refine w_iinc (lo' := fun z9 => [some (.inr (.inr (some 0))), some (.inl w), some (.inl b1), some (.inl b2), some (.inl z9), some (.inl x18), some (.inl x21), some (.inl x24), some (.inl ok)]) rfl rfl (fun _ => rfl) (by omega) (fun x30 tx30 => ?_)
                      refine w_goto rfl ?_
                      exact ih31 (24 - x30.toInt).toNat (by omega) b1 b2 x30 a191 (some (.inl x18)) (some (.inl x21)) (some (.inl x24)) (some (.inl ok)) rfl hR191 (hF191) (hC191) (by omega) (by omega) ((hD191))
                    · skip
                      refine w_aload rfl rfl ?_
                      refine w_const rfl ?_
                      refine w_aload rfl rfl ?_
                      refine w_const rfl ?_
                      refine w_invV (rest := [.inl 1260, .inr (.inr (some 0))]) rfl rfl rfl rfl rfl (Nat.le_of_ble_eq_true rfl) rfl (by omega) (s_winter (K := K) a191 b  1260 hR191 (by omega)) (fun v31 h9 hq32 => ?_)
                      obtain ⟨rfl, x33, rfl, px33⟩ := hq32
                      show f_wp _ (227, [some (.inr (.inr (some 0))), some (.inl w), some (.inl b1), some (.inl b2), some (.inl k), some (.inl x18), some (.inl x21), some (.inl x24), some (.inl ok)], [.inl x33, .inl 1260, .inr (.inr (some 0))], mH a191 b) _
                      refine w_invV (rest := []) rfl rfl rfl rfl rfl (Nat.le_of_ble_eq_true rfl) rfl (by omega) (s_areServed (K := K) a191 b  1260 x33 hR191 (by omega) (by omega) ((hD191))) (fun v34 h9 hq35 => ?_)
                      obtain ⟨rfl, x36, rfl, px36⟩ := hq35
                      show f_wp _ (230, [some (.inr (.inr (some 0))), some (.inl w), some (.inl b1), some (.inl b2), some (.inl k), some (.inl x18), some (.inl x21), some (.inl x24), some (.inl ok)], [.inl x36], mH a191 b) _
                      refine w_if_ne rfl (fun c37 => ?_) (fun c37 => ?_)
                      · skip
                        refine w_iload rfl rfl ?_
                        refine w_goto rfl ?_
                        refine w_istore (lo' := [some (.inr (.inr (some 0))), some (.inl w), some (.inl b1), some (.inl k), some (.inl k), some (.inl x18), some (.inl x21), some (.inl x24), some (.inl ok)]) rfl rfl ?_
                        refine w_iinc (lo' := fun z9 => [some (.inr (.inr (some 0))), some (.inl w), some (.inl b1), some (.inl k), some (.inl z9), some (.inl x18), some (.inl x21), some (.inl x24), some (.inl ok)]) rfl rfl (fun _ => rfl) (by omega) (fun x38 tx38 => ?_)
                        refine w_goto rfl ?_
                        exact ih31 (24 - x38.toInt).toNat (by omega) b1 k x38 a191 (some (.inl x18)) (some (.inl x21)) (some (.inl x24)) (some (.inl ok)) rfl hR191 (hF191) (hC191) (by omega) (by omega) ((hD191))
                      · skip
                        refine w_iload rfl rfl ?_
                        refine w_istore (lo' := [some (.inr (.inr (some 0))), some (.inl w), some (.inl b1), some (.inl b2), some (.inl k), some (.inl x18), some (.inl x21), some (.inl x24), some (.inl ok)]) rfl rfl ?_
                        refine w_iinc (lo' := fun z9 => [some (.inr (.inr (some 0))), some (.inl w), some (.inl b1), some (.inl b2), some (.inl z9), some (.inl x18), some (.inl x21), some (.inl x24), some (.inl ok)]) rfl rfl (fun _ => rfl) (by omega) (fun x39 tx39 => ?_)
                        refine w_goto rfl ?_
                        exact ih31 (24 - x39.toInt).toNat (by omega) b1 b2 x39 a191 (some (.inl x18)) (some (.inl x21)) (some (.inl x24)) (some (.inl ok)) rfl hR191 (hF191) (hC191) (by omega) (by omega) ((hD191))
                · skip
                  refine w_iload rfl rfl ?_
                  refine w_goto rfl ?_
                  refine w_istore (lo' := [some (.inr (.inr (some 0))), some (.inl w), some (.inl k), some (.inl b2), some (.inl k), some (.inl x18), some (.inl x21), some (.inl x24), some (.inl ok)]) rfl rfl ?_
                  refine w_iload rfl rfl ?_
                  refine w_if_eq rfl (fun c40 => ?_) (fun c40 => ?_)
                  · skip
                    refine w_iload rfl rfl ?_
                    refine w_istore (lo' := [some (.inr (.inr (some 0))), some (.inl w), some (.inl k), some (.inl b2), some (.inl k), some (.inl x18), some (.inl x21), some (.inl x24), some (.inl ok)]) rfl rfl ?_
                    refine w_iinc (lo' := fun z9 => [some (.inr (.inr (some 0))), some (.inl w), some (.inl k), some (.inl b2), some (.inl z9), some (.inl x18), some (.inl x21), some (.inl x24), some (.inl ok)]) rfl rfl (fun _ => rfl) (by omega) (fun x41 tx41 => ?_)
                    refine w_goto rfl ?_
                    exact ih31 (24 - x41.toInt).toNat (by omega) k b2 x41 a191 (some (.inl x18)) (some (.inl x21)) (some (.inl x24)) (some (.inl ok)) rfl hR191 (hF191) (hC191) (by omega) (by omega) ((hD191))
                  · skip
                    refine w_iload rfl rfl ?_
                    refine w_if_ge rfl (fun c42 => ?_) (fun c42 => ?_)
                    · skip
                      refine w_iload rfl rfl ?_
                      refine w_istore (lo' := [some (.inr (.inr (some 0))), some (.inl w), some (.inl k), some (.inl b2), some (.inl k), some (.inl x18), some (.inl x21), some (.inl x24), some (.inl ok)]) rfl rfl ?_
                      refine w_iinc (lo' := fun z9 => [some (.inr (.inr (some 0))), some (.inl w), some (.inl k), some (.inl b2), some (.inl z9), some (.inl x18), some (.inl x21), some (.inl x24), some (.inl ok)]) rfl rfl (fun _ => rfl) (by omega) (fun x43 tx43 => ?_)
                      refine w_goto rfl ?_
                      exact ih31 (24 - x43.toInt).toNat (by omega) k b2 x43 a191 (some (.inl x18)) (some (.inl x21)) (some (.inl x24)) (some (.inl ok)) rfl hR191 (hF191) (hC191) (by omega) (by omega) ((hD191))
                    · skip
                      refine w_aload rfl rfl ?_
                      refine w_const rfl ?_
                      refine w_aload rfl rfl ?_
                      refine w_const rfl ?_
                      refine w_invV (rest := [.inl 1260, .inr (.inr (some 0))]) rfl rfl rfl rfl rfl (Nat.le_of_ble_eq_true rfl) rfl (by omega) (s_winter (K := K) a191 b  1260 hR191 (by omega)) (fun v44 h9 hq45 => ?_)
                      obtain ⟨rfl, x46, rfl, px46⟩ := hq45
                      show f_wp _ (227, [some (.inr (.inr (some 0))), some (.inl w), some (.inl k), some (.inl b2), some (.inl k), some (.inl x18), some (.inl x21), some (.inl x24), some (.inl ok)], [.inl x46, .inl 1260, .inr (.inr (some 0))], mH a191 b) _
                      refine w_invV (rest := []) rfl rfl rfl rfl rfl (Nat.le_of_ble_eq_true rfl) rfl (by omega) (s_areServed (K := K) a191 b  1260 x46 hR191 (by omega) (by omega) ((hD191))) (fun v47 h9 hq48 => ?_)
                      obtain ⟨rfl, x49, rfl, px49⟩ := hq48
                      show f_wp _ (230, [some (.inr (.inr (some 0))), some (.inl w), some (.inl k), some (.inl b2), some (.inl k), some (.inl x18), some (.inl x21), some (.inl x24), some (.inl ok)], [.inl x49], mH a191 b) _
                      refine w_if_ne rfl (fun c50 => ?_) (fun c50 => ?_)
                      · skip
                        refine w_iload rfl rfl ?_
                        refine w_goto rfl ?_
                        refine w_istore (lo' := [some (.inr (.inr (some 0))), some (.inl w), some (.inl k), some (.inl k), some (.inl k), some (.inl x18), some (.inl x21), some (.inl x24), some (.inl ok)]) rfl rfl ?_
                        refine w_iinc (lo' := fun z9 => [some (.inr (.inr (some 0))), some (.inl w), some (.inl k), some (.inl k), some (.inl z9), some (.inl x18), some (.inl x21), some (.inl x24), some (.inl ok)]) rfl rfl (fun _ => rfl) (by omega) (fun x51 tx51 => ?_)
                        refine w_goto rfl ?_
                        exact ih31 (24 - x51.toInt).toNat (by omega) k k x51 a191 (some (.inl x18)) (some (.inl x21)) (some (.inl x24)) (some (.inl ok)) rfl hR191 (hF191) (hC191) (by omega) (by omega) ((hD191))
                      · skip
                        refine w_iload rfl rfl ?_
                        refine w_istore (lo' := [some (.inr (.inr (some 0))), some (.inl w), some (.inl k), some (.inl b2), some (.inl k), some (.inl x18), some (.inl x21), some (.inl x24), some (.inl ok)]) rfl rfl ?_
                        refine w_iinc (lo' := fun z9 => [some (.inr (.inr (some 0))), some (.inl w), some (.inl k), some (.inl b2), some (.inl z9), some (.inl x18), some (.inl x21), some (.inl x24), some (.inl ok)]) rfl rfl (fun _ => rfl) (by omega) (fun x52 tx52 => ?_)
                        refine w_goto rfl ?_
                        exact ih31 (24 - x52.toInt).toNat (by omega) k b2 x52 a191 (some (.inl x18)) (some (.inl x21)) (some (.inl x24)) (some (.inl ok)) rfl hR191 (hF191) (hC191) (by omega) (by omega) ((hD191))
              · skip
                refine w_iload rfl rfl ?_
                refine w_istore (lo' := [some (.inr (.inr (some 0))), some (.inl w), some (.inl b1), some (.inl b2), some (.inl k), some (.inl x18), some (.inl x21), some (.inl x24), some (.inl ok)]) rfl rfl ?_
                refine w_iload rfl rfl ?_
                refine w_if_eq rfl (fun c53 => ?_) (fun c53 => ?_)
                · skip
                  refine w_iload rfl rfl ?_
                  refine w_istore (lo' := [some (.inr (.inr (some 0))), some (.inl w), some (.inl b1), some (.inl b2), some (.inl k), some (.inl x18), some (.inl x21), some (.inl x24), some (.inl ok)]) rfl rfl ?_
                  refine w_iinc (lo' := fun z9 => [some (.inr (.inr (some 0))), some (.inl w), some (.inl b1), some (.inl b2), some (.inl z9), some (.inl x18), some (.inl x21), some (.inl x24), some (.inl ok)]) rfl rfl (fun _ => rfl) (by omega) (fun x54 tx54 => ?_)
                  refine w_goto rfl ?_
                  exact ih31 (24 - x54.toInt).toNat (by omega) b1 b2 x54 a191 (some (.inl x18)) (some (.inl x21)) (some (.inl x24)) (some (.inl ok)) rfl hR191 (hF191) (hC191) (by omega) (by omega) ((hD191))
                · skip
                  refine w_iload rfl rfl ?_
                  refine w_if_ge rfl (fun c55 => ?_) (fun c55 => ?_)
                  · skip
                    refine w_iload rfl rfl ?_
                    refine w_istore (lo' := [some (.inr (.inr (some 0))), some (.inl w), some (.inl b1), some (.inl b2), some (.inl k), some (.inl x18), some (.inl x21), some (.inl x24), some (.inl ok)]) rfl rfl ?_
                    refine w_iinc (lo' := fun z9 => [some (.inr (.inr (some 0))), some (.inl w), some (.inl b1), some (.inl b2), some (.inl z9), some (.inl x18), some (.inl x21), some (.inl x24), some (.inl ok)]) rfl rfl (fun _ => rfl) (by omega) (fun x56 tx56 => ?_)
                    refine w_goto rfl ?_
                    exact ih31 (24 - x56.toInt).toNat (by omega) b1 b2 x56 a191 (some (.inl x18)) (some (.inl x21)) (some (.inl x24)) (some (.inl ok)) rfl hR191 (hF191) (hC191) (by omega) (by omega) ((hD191))
                  · skip
                    refine w_aload rfl rfl ?_
                    refine w_const rfl ?_
                    refine w_aload rfl rfl ?_
                    refine w_const rfl ?_
                    refine w_invV (rest := [.inl 1260, .inr (.inr (some 0))]) rfl rfl rfl rfl rfl (Nat.le_of_ble_eq_true rfl) rfl (by omega) (s_winter (K := K) a191 b  1260 hR191 (by omega)) (fun v57 h9 hq58 => ?_)
                    obtain ⟨rfl, x59, rfl, px59⟩ := hq58
                    show f_wp _ (227, [some (.inr (.inr (some 0))), some (.inl w), some (.inl b1), some (.inl b2), some (.inl k), some (.inl x18), some (.inl x21), some (.inl x24), some (.inl ok)], [.inl x59, .inl 1260, .inr (.inr (some 0))], mH a191 b) _
                    refine w_invV (rest := []) rfl rfl rfl rfl rfl (Nat.le_of_ble_eq_true rfl) rfl (by omega) (s_areServed (K := K) a191 b  1260 x59 hR191 (by omega) (by omega) ((hD191))) (fun v60 h9 hq61 => ?_)
                    obtain ⟨rfl, x62, rfl, px62⟩ := hq61
                    show f_wp _ (230, [some (.inr (.inr (some 0))), some (.inl w), some (.inl b1), some (.inl b2), some (.inl k), some (.inl x18), some (.inl x21), some (.inl x24), some (.inl ok)], [.inl x62], mH a191 b) _
                    refine w_if_ne rfl (fun c63 => ?_) (fun c63 => ?_)
                    · skip
                      refine w_iload rfl rfl ?_
                      refine w_goto rfl ?_
                      refine w_istore (lo' := [some (.inr (.inr (some 0))), some (.inl w), some (.inl b1), some (.inl k), some (.inl k), some (.inl x18), some (.inl x21), some (.inl x24), some (.inl ok)]) rfl rfl ?_
                      refine w_iinc (lo' := fun z9 => [some (.inr (.inr (some 0))), some (.inl w), some (.inl b1), some (.inl k), some (.inl z9), some (.inl x18), some (.inl x21), some (.inl x24), some (.inl ok)]) rfl rfl (fun _ => rfl) (by omega) (fun x64 tx64 => ?_)
                      refine w_goto rfl ?_
                      exact ih31 (24 - x64.toInt).toNat (by omega) b1 k x64 a191 (some (.inl x18)) (some (.inl x21)) (some (.inl x24)) (some (.inl ok)) rfl hR191 (hF191) (hC191) (by omega) (by omega) ((hD191))
                    · skip
                      refine w_iload rfl rfl ?_
                      refine w_istore (lo' := [some (.inr (.inr (some 0))), some (.inl w), some (.inl b1), some (.inl b2), some (.inl k), some (.inl x18), some (.inl x21), some (.inl x24), some (.inl ok)]) rfl rfl ?_
                      refine w_iinc (lo' := fun z9 => [some (.inr (.inr (some 0))), some (.inl w), some (.inl b1), some (.inl b2), some (.inl z9), some (.inl x18), some (.inl x21), some (.inl x24), some (.inl ok)]) rfl rfl (fun _ => rfl) (by omega) (fun x65 tx65 => ?_)
                      refine w_goto rfl ?_
                      exact ih31 (24 - x65.toInt).toNat (by omega) b1 b2 x65 a191 (some (.inl x18)) (some (.inl x21)) (some (.inl x24)) (some (.inl ok)) rfl hR191 (hF191) (hC191) (by omega) (by omega) ((hD191))
          refine w_iload rfl rfl ?_
          refine w_const rfl ?_
          refine w_ic_eq rfl (fun c66 => ?_) (fun c66 => ?_)
          · skip
            refine w_const rfl ?_
            refine w_goto rfl ?_
            refine w_istore (lo' := [some (.inr (.inr (some 0))), some (.inl w), some (.inl b1), some (.inl b2), some (.inl k), some (.inl x18), some (.inl x21), some (.inl x24), some (.inl 1)]) rfl rfl ?_
            refine w_iload rfl rfl ?_
            refine w_if_eq rfl (fun c67 => ?_) (fun c67 => ?_)
            · skip
              refine w_iload rfl rfl ?_
              refine w_if_eq rfl (fun c68 => ?_) (fun c68 => ?_)
              · skip
                refine w_iload rfl rfl ?_
                refine w_if_eq rfl (fun c69 => ?_) (fun c69 => ?_)
                · skip
                  exact loop191 _ 1 a31 rfl hR31 (hF31) (hC31) (by omega) ((hD31))
                · skip
                  refine w_aload rfl rfl ?_
                  refine w_const rfl ?_
                  refine w_invV (rest := []) rfl rfl rfl rfl rfl (Nat.le_of_ble_eq_true rfl) rfl (by omega) (s_passes (K := K) a31 b  1260 hR31 (by omega) ((hD31)) (CDI.fr hC ((hF31) : FR [0, 13, 14, 15, 17] a a31) (by decide) (by decide) (by decide)) (by have z9 : (a31 15 1260).toInt ≤ k.toInt := (by omega); exact ⟨show (a31 15 1260).toInt + 1 ≤ _ by omega, show (a31 15 1260).toInt + 1 ≤ _ by omega⟩)) (fun v70 h9 hq71 => ?_)
                  obtain ⟨a72, rfl, ha72, fa72, rfl⟩ := hq71
                  show f_wp _ (191, [some (.inr (.inr (some 0))), some (.inl w), some (.inl b1), some (.inl b2), some (.inl k), some (.inl x18), some (.inl x21), some (.inl x24), some (.inl 1)], [], mH a72 b) _
                  exact loop191 _ 1 a72 rfl ha72 (FR.tr (hF31) (FR.sub fa72.1 (by decide))) (fun (m9 : Nat) (l9 : m9 < 21) (h7 : ACm m9 a) => fa72.2.1 m9 (by omega) ((hC31) m9 l9 h7)) (by rw [show (a72 15 1260).toInt = _ from fa72.2.2.1, show (1260 : Int32).toInt.toNat = 1260 from rfl]; omega) ((fa72.2.1 21 (by decide) (hD31)))
              · skip
                refine w_iload rfl rfl ?_
                refine w_const rfl ?_
                refine w_ic_ne rfl (fun c73 => ?_) (fun c73 => ?_)
                · skip
                  refine w_aload rfl rfl ?_
                  refine w_getR (v := .inr (.inr (some 15))) rfl rfl rfl rfl rfl ?_
                  refine w_const rfl ?_
                  refine w_iload rfl rfl ?_
                  first | refine w_iadd rfl (by omega) (fun x74 tx74 => ?_) | refine w_iiU rfl (fun x74 tx74 => ?_)
                  refine w_const rfl ?_
                  refine m_iast rfl rfl (by omega) (fun a75 ea75 => ?_)
                  have ha75 : RM K a75 := RM.up hR31 ea75 (st_wed (by omega) (by omega))
                  refine w_goto rfl ?_
                  exact loop191 _ 1 a75 rfl ha75 (FR.up (hF31) (by decide) ea75) (fun (m9 : Nat) (l9 : m9 < 21) (h7 : ACm m9 a) => ACm.put ((hC31) m9 l9 h7) ea75 (by omega)) (by rw [ea75, mU_slot (by omega)]; omega) ((ACm.put (m := 21) (hD31) ea75 (by omega)))
                · skip
                  refine w_iload rfl rfl ?_
                  refine w_if_eq rfl (fun c76 => ?_) (fun c76 => ?_)
                  · skip
                    exact loop191 _ 1 a31 rfl hR31 (hF31) (hC31) (by omega) ((hD31))
                  · skip
                    refine w_aload rfl rfl ?_
                    refine w_const rfl ?_
                    refine w_invV (rest := []) rfl rfl rfl rfl rfl (Nat.le_of_ble_eq_true rfl) rfl (by omega) (s_passes (K := K) a31 b  1260 hR31 (by omega) ((hD31)) (CDI.fr hC ((hF31) : FR [0, 13, 14, 15, 17] a a31) (by decide) (by decide) (by decide)) (by have z9 : (a31 15 1260).toInt ≤ k.toInt := (by omega); exact ⟨show (a31 15 1260).toInt + 1 ≤ _ by omega, show (a31 15 1260).toInt + 1 ≤ _ by omega⟩)) (fun v77 h9 hq78 => ?_)
                    obtain ⟨a79, rfl, ha79, fa79, rfl⟩ := hq78
                    show f_wp _ (191, [some (.inr (.inr (some 0))), some (.inl w), some (.inl b1), some (.inl b2), some (.inl k), some (.inl x18), some (.inl x21), some (.inl x24), some (.inl 1)], [], mH a79 b) _
                    exact loop191 _ 1 a79 rfl ha79 (FR.tr (hF31) (FR.sub fa79.1 (by decide))) (fun (m9 : Nat) (l9 : m9 < 21) (h7 : ACm m9 a) => fa79.2.1 m9 (by omega) ((hC31) m9 l9 h7)) (by rw [show (a79 15 1260).toInt = _ from fa79.2.2.1, show (1260 : Int32).toInt.toNat = 1260 from rfl]; omega) ((fa79.2.1 21 (by decide) (hD31)))
            · skip
              refine w_iload rfl rfl ?_
              refine w_if_ne rfl (fun c80 => ?_) (fun c80 => ?_)
              · skip
                refine w_aload rfl rfl ?_
                refine w_const rfl ?_
                refine w_iload rfl rfl ?_
                refine w_iload rfl rfl ?_
                refine w_invV (rest := []) rfl rfl rfl rfl rfl (Nat.le_of_ble_eq_true rfl) rfl (by omega) (s_weds (K := K) a31 b  1260 x21 x24 hR31 (by omega) (by omega) (by omega) ((hD31)) (CDI.fr hC ((hF31) : FR [0, 13, 14, 15, 17] a a31) (by decide) (by decide) (by decide)) (by first | exact hcc | (exfalso; omega))) (fun v81 h9 hq82 => ?_)
                obtain ⟨a83, rfl, ha83, fa83, x84, rfl, px84⟩ := hq82
                show f_wp _ (149, [some (.inr (.inr (some 0))), some (.inl w), some (.inl b1), some (.inl b2), some (.inl k), some (.inl x18), some (.inl x21), some (.inl x24), some (.inl 1)], [.inl x84], mH a83 b) _
                refine w_pop rfl rfl ?_
                refine w_goto rfl ?_
                exact loop191 _ 1 a83 rfl ha83 (FR.tr (hF31) (FR.sub fa83.1 (by decide))) (fun (m9 : Nat) (l9 : m9 < 21) (h7 : ACm m9 a) => fa83.2.1 m9 (by omega) ((hC31) m9 l9 h7)) (by rw [fa83.2.2 1260 (Or.inl (by decide))]; omega) ((fa83.2.1 21 (by decide) (hD31)))
              · skip
                refine w_iload rfl rfl ?_
                refine w_if_eq rfl (fun c85 => ?_) (fun c85 => ?_)
                · skip
                  refine w_iload rfl rfl ?_
                  refine w_if_eq rfl (fun c86 => ?_) (fun c86 => ?_)
                  · skip
                    exact loop191 _ 1 a31 rfl hR31 (hF31) (hC31) (by omega) ((hD31))
                  · skip
                    refine w_aload rfl rfl ?_
                    refine w_const rfl ?_
                    refine w_invV (rest := []) rfl rfl rfl rfl rfl (Nat.le_of_ble_eq_true rfl) rfl (by omega) (s_passes (K := K) a31 b  1260 hR31 (by omega) ((hD31)) (CDI.fr hC ((hF31) : FR [0, 13, 14, 15, 17] a a31) (by decide) (by decide) (by decide)) (by have z9 : (a31 15 1260).toInt ≤ k.toInt := (by omega); exact ⟨show (a31 15 1260).toInt + 1 ≤ _ by omega, show (a31 15 1260).toInt + 1 ≤ _ by omega⟩)) (fun v87 h9 hq88 => ?_)
                    obtain ⟨a89, rfl, ha89, fa89, rfl⟩ := hq88
                    show f_wp _ (191, [some (.inr (.inr (some 0))), some (.inl w), some (.inl b1), some (.inl b2), some (.inl k), some (.inl x18), some (.inl x21), some (.inl x24), some (.inl 1)], [], mH a89 b) _
                    exact loop191 _ 1 a89 rfl ha89 (FR.tr (hF31) (FR.sub fa89.1 (by decide))) (fun (m9 : Nat) (l9 : m9 < 21) (h7 : ACm m9 a) => fa89.2.1 m9 (by omega) ((hC31) m9 l9 h7)) (by rw [show (a89 15 1260).toInt = _ from fa89.2.2.1, show (1260 : Int32).toInt.toNat = 1260 from rfl]; omega) ((fa89.2.1 21 (by decide) (hD31)))
                · skip
                  refine w_iload rfl rfl ?_
                  refine w_const rfl ?_
                  refine w_ic_ne rfl (fun c90 => ?_) (fun c90 => ?_)
                  · skip
                    refine w_aload rfl rfl ?_
                    refine w_getR (v := .inr (.inr (some 15))) rfl rfl rfl rfl rfl ?_
                    refine w_const rfl ?_
                    refine w_iload rfl rfl ?_
                    first | refine w_iadd rfl (by omega) (fun x91 tx91 => ?_) | refine w_iiU rfl (fun x91 tx91 => ?_)
                    refine w_const rfl ?_
                    refine m_iast rfl rfl (by omega) (fun a92 ea92 => ?_)
                    have ha92 : RM K a92 := RM.up hR31 ea92 (st_wed (by omega) (by omega))
                    refine w_goto rfl ?_
                    exact loop191 _ 1 a92 rfl ha92 (FR.up (hF31) (by decide) ea92) (fun (m9 : Nat) (l9 : m9 < 21) (h7 : ACm m9 a) => ACm.put ((hC31) m9 l9 h7) ea92 (by omega)) (by rw [ea92, mU_slot (by omega)]; omega) ((ACm.put (m := 21) (hD31) ea92 (by omega)))
                  · skip
                    refine w_iload rfl rfl ?_
                    refine w_if_eq rfl (fun c93 => ?_) (fun c93 => ?_)
                    · skip
                      exact loop191 _ 1 a31 rfl hR31 (hF31) (hC31) (by omega) ((hD31))
                    · skip
                      refine w_aload rfl rfl ?_
                      refine w_const rfl ?_
                      refine w_invV (rest := []) rfl rfl rfl rfl rfl (Nat.le_of_ble_eq_true rfl) rfl (by omega) (s_passes (K := K) a31 b  1260 hR31 (by omega) ((hD31)) (CDI.fr hC ((hF31) : FR [0, 13, 14, 15, 17] a a31) (by decide) (by decide) (by decide)) (by have z9 : (a31 15 1260).toInt ≤ k.toInt := (by omega); exact ⟨show (a31 15 1260).toInt + 1 ≤ _ by omega, show (a31 15 1260).toInt + 1 ≤ _ by omega⟩)) (fun v94 h9 hq95 => ?_)
                      obtain ⟨a96, rfl, ha96, fa96, rfl⟩ := hq95
                      show f_wp _ (191, [some (.inr (.inr (some 0))), some (.inl w), some (.inl b1), some (.inl b2), some (.inl k), some (.inl x18), some (.inl x21), some (.inl x24), some (.inl 1)], [], mH a96 b) _
                      exact loop191 _ 1 a96 rfl ha96 (FR.tr (hF31) (FR.sub fa96.1 (by decide))) (fun (m9 : Nat) (l9 : m9 < 21) (h7 : ACm m9 a) => fa96.2.1 m9 (by omega) ((hC31) m9 l9 h7)) (by rw [show (a96 15 1260).toInt = _ from fa96.2.2.1, show (1260 : Int32).toInt.toNat = 1260 from rfl]; omega) ((fa96.2.1 21 (by decide) (hD31)))
          · skip
            refine w_iload rfl rfl ?_
            refine w_if_ne rfl (fun c97 => ?_) (fun c97 => ?_)
            · skip
              refine w_aload rfl rfl ?_
              refine w_const rfl ?_
              refine w_iload rfl rfl ?_
              refine w_iload rfl rfl ?_
              refine w_invV (rest := []) rfl rfl rfl rfl rfl (Nat.le_of_ble_eq_true rfl) rfl (by omega) (s_mayWed (K := K) a31 b  1260 x21 x24 hR31 (by omega) (by omega) (by omega) ((hD31))) (fun v98 h9 hq99 => ?_)
              obtain ⟨a100, rfl, ha100, fa100, x101, rfl, px101⟩ := hq99
              show f_wp _ (103, [some (.inr (.inr (some 0))), some (.inl w), some (.inl b1), some (.inl b2), some (.inl k), some (.inl x18), some (.inl x21), some (.inl x24), o8_31], [.inl x101], mH a100 b) _
              have pw := px101
              refine w_if_eq rfl (fun c102 => ?_) (fun c102 => ?_)
              · skip
                refine w_const rfl ?_
                refine w_istore (lo' := [some (.inr (.inr (some 0))), some (.inl w), some (.inl b1), some (.inl b2), some (.inl k), some (.inl x18), some (.inl x21), some (.inl x24), some (.inl 0)]) rfl rfl ?_
                refine w_iload rfl rfl ?_
                refine w_if_eq rfl (fun c103 => ?_) (fun c103 => ?_)
                · skip
                  refine w_iload rfl rfl ?_
                  refine w_if_eq rfl (fun c104 => ?_) (fun c104 => ?_)
                  · skip
                    refine w_iload rfl rfl ?_
                    refine w_if_eq rfl (fun c105 => ?_) (fun c105 => ?_)
                    · skip
                      exact loop191 _ 0 a100 rfl ha100 (FR.tr (hF31) (FR.sub fa100.1 (by decide))) (fun (m9 : Nat) (l9 : m9 < 21) (h7 : ACm m9 a) => ACm.fr ((hC31) m9 l9 h7) fa100.1 (by decide)) (by rw [fa100.1 15 (by decide)]; omega) ((ACm.fr (m := 21) (hD31) fa100.1 (by decide)))
                    · skip
                      refine w_aload rfl rfl ?_
                      refine w_const rfl ?_
                      refine w_invV (rest := []) rfl rfl rfl rfl rfl (Nat.le_of_ble_eq_true rfl) rfl (by omega) (s_passes (K := K) a100 b  1260 ha100 (by omega) ((ACm.fr (m := 21) (hD31) fa100.1 (by decide))) (CDI.fr hC ((FR.tr (hF31) (FR.sub fa100.1 (by decide))) : FR [0, 13, 14, 15, 17] a a100) (by decide) (by decide) (by decide)) (by have z9 : (a100 15 1260).toInt ≤ k.toInt := (by rw [fa100.1 15 (by decide)]; omega); exact ⟨show (a100 15 1260).toInt + 1 ≤ _ by omega, show (a100 15 1260).toInt + 1 ≤ _ by omega⟩)) (fun v106 h9 hq107 => ?_)
                      obtain ⟨a108, rfl, ha108, fa108, rfl⟩ := hq107
                      show f_wp _ (191, [some (.inr (.inr (some 0))), some (.inl w), some (.inl b1), some (.inl b2), some (.inl k), some (.inl x18), some (.inl x21), some (.inl x24), some (.inl 0)], [], mH a108 b) _
                      exact loop191 _ 0 a108 rfl ha108 (FR.tr (FR.tr (hF31) (FR.sub fa100.1 (by decide))) (FR.sub fa108.1 (by decide))) (fun (m9 : Nat) (l9 : m9 < 21) (h7 : ACm m9 a) => fa108.2.1 m9 (by omega) ((fun (m9 : Nat) (l9 : m9 < 21) (h7 : ACm m9 a) => ACm.fr ((hC31) m9 l9 h7) fa100.1 (by decide)) m9 l9 h7)) (by rw [show (a108 15 1260).toInt = _ from fa108.2.2.1, show (1260 : Int32).toInt.toNat = 1260 from rfl]; rw [fa100.1 15 (by decide)]; omega) ((fa108.2.1 21 (by decide) (ACm.fr (m := 21) (hD31) fa100.1 (by decide))))
                  · skip
                    refine w_iload rfl rfl ?_
                    refine w_const rfl ?_
                    refine w_ic_ne rfl (fun c109 => ?_) (fun c109 => ?_)
                    · skip
                      refine w_aload rfl rfl ?_
                      refine w_getR (v := .inr (.inr (some 15))) rfl rfl rfl rfl rfl ?_
                      refine w_const rfl ?_
                      refine w_iload rfl rfl ?_
                      first | refine w_iadd rfl (by omega) (fun x110 tx110 => ?_) | refine w_iiU rfl (fun x110 tx110 => ?_)
                      refine w_const rfl ?_
                      refine m_iast rfl rfl (by omega) (fun a111 ea111 => ?_)
                      have ha111 : RM K a111 := RM.up ha100 ea111 (st_wed (by omega) (by omega))
                      refine w_goto rfl ?_
                      exact loop191 _ 0 a111 rfl ha111 (FR.up (FR.tr (hF31) (FR.sub fa100.1 (by decide))) (by decide) ea111) (fun (m9 : Nat) (l9 : m9 < 21) (h7 : ACm m9 a) => ACm.put ((fun (m9 : Nat) (l9 : m9 < 21) (h7 : ACm m9 a) => ACm.fr ((hC31) m9 l9 h7) fa100.1 (by decide)) m9 l9 h7) ea111 (by omega)) (by rw [ea111, mU_slot (by omega)]; rw [fa100.1 15 (by decide)]; omega) ((ACm.put (m := 21) (ACm.fr (m := 21) (hD31) fa100.1 (by decide)) ea111 (by omega)))
                    · skip
                      refine w_iload rfl rfl ?_
                      refine w_if_eq rfl (fun c112 => ?_) (fun c112 => ?_)
                      · skip
                        exact loop191 _ 0 a100 rfl ha100 (FR.tr (hF31) (FR.sub fa100.1 (by decide))) (fun (m9 : Nat) (l9 : m9 < 21) (h7 : ACm m9 a) => ACm.fr ((hC31) m9 l9 h7) fa100.1 (by decide)) (by rw [fa100.1 15 (by decide)]; omega) ((ACm.fr (m := 21) (hD31) fa100.1 (by decide)))
                      · skip
                        refine w_aload rfl rfl ?_
                        refine w_const rfl ?_
                        refine w_invV (rest := []) rfl rfl rfl rfl rfl (Nat.le_of_ble_eq_true rfl) rfl (by omega) (s_passes (K := K) a100 b  1260 ha100 (by omega) ((ACm.fr (m := 21) (hD31) fa100.1 (by decide))) (CDI.fr hC ((FR.tr (hF31) (FR.sub fa100.1 (by decide))) : FR [0, 13, 14, 15, 17] a a100) (by decide) (by decide) (by decide)) (by have z9 : (a100 15 1260).toInt ≤ k.toInt := (by rw [fa100.1 15 (by decide)]; omega); exact ⟨show (a100 15 1260).toInt + 1 ≤ _ by omega, show (a100 15 1260).toInt + 1 ≤ _ by omega⟩)) (fun v113 h9 hq114 => ?_)
                        obtain ⟨a115, rfl, ha115, fa115, rfl⟩ := hq114
                        show f_wp _ (191, [some (.inr (.inr (some 0))), some (.inl w), some (.inl b1), some (.inl b2), some (.inl k), some (.inl x18), some (.inl x21), some (.inl x24), some (.inl 0)], [], mH a115 b) _
                        exact loop191 _ 0 a115 rfl ha115 (FR.tr (FR.tr (hF31) (FR.sub fa100.1 (by decide))) (FR.sub fa115.1 (by decide))) (fun (m9 : Nat) (l9 : m9 < 21) (h7 : ACm m9 a) => fa115.2.1 m9 (by omega) ((fun (m9 : Nat) (l9 : m9 < 21) (h7 : ACm m9 a) => ACm.fr ((hC31) m9 l9 h7) fa100.1 (by decide)) m9 l9 h7)) (by rw [show (a115 15 1260).toInt = _ from fa115.2.2.1, show (1260 : Int32).toInt.toNat = 1260 from rfl]; rw [fa100.1 15 (by decide)]; omega) ((fa115.2.1 21 (by decide) (ACm.fr (m := 21) (hD31) fa100.1 (by decide))))
                · skip
                  refine w_iload rfl rfl ?_
                  refine w_if_ne rfl (fun c116 => ?_) (fun c116 => ?_)
                  · skip
                    refine w_aload rfl rfl ?_
                    refine w_const rfl ?_
                    refine w_iload rfl rfl ?_
                    refine w_iload rfl rfl ?_
                    refine w_invV (rest := []) rfl rfl rfl rfl rfl (Nat.le_of_ble_eq_true rfl) rfl (by omega) (s_weds (K := K) a100 b  1260 x21 x24 ha100 (by omega) (by omega) (by omega) ((ACm.fr (m := 21) (hD31) fa100.1 (by decide))) (CDI.fr hC ((FR.tr (hF31) (FR.sub fa100.1 (by decide))) : FR [0, 13, 14, 15, 17] a a100) (by decide) (by decide) (by decide)) (by first | exact hcc | (exfalso; omega))) (fun v117 h9 hq118 => ?_)
                    obtain ⟨a119, rfl, ha119, fa119, x120, rfl, px120⟩ := hq118
                    show f_wp _ (149, [some (.inr (.inr (some 0))), some (.inl w), some (.inl b1), some (.inl b2), some (.inl k), some (.inl x18), some (.inl x21), some (.inl x24), some (.inl 0)], [.inl x120], mH a119 b) _
                    refine w_pop rfl rfl ?_
                    refine w_goto rfl ?_
                    exact loop191 _ 0 a119 rfl ha119 (FR.tr (FR.tr (hF31) (FR.sub fa100.1 (by decide))) (FR.sub fa119.1 (by decide))) (fun (m9 : Nat) (l9 : m9 < 21) (h7 : ACm m9 a) => fa119.2.1 m9 (by omega) ((fun (m9 : Nat) (l9 : m9 < 21) (h7 : ACm m9 a) => ACm.fr ((hC31) m9 l9 h7) fa100.1 (by decide)) m9 l9 h7)) (by rw [fa119.2.2 1260 (Or.inl (by decide))]; rw [fa100.1 15 (by decide)]; omega) ((fa119.2.1 21 (by decide) (ACm.fr (m := 21) (hD31) fa100.1 (by decide))))
                  · skip
                    refine w_iload rfl rfl ?_
                    refine w_if_eq rfl (fun c121 => ?_) (fun c121 => ?_)
                    · skip
                      refine w_iload rfl rfl ?_
                      refine w_if_eq rfl (fun c122 => ?_) (fun c122 => ?_)
                      · skip
                        exact loop191 _ 0 a100 rfl ha100 (FR.tr (hF31) (FR.sub fa100.1 (by decide))) (fun (m9 : Nat) (l9 : m9 < 21) (h7 : ACm m9 a) => ACm.fr ((hC31) m9 l9 h7) fa100.1 (by decide)) (by rw [fa100.1 15 (by decide)]; omega) ((ACm.fr (m := 21) (hD31) fa100.1 (by decide)))
                      · skip
                        refine w_aload rfl rfl ?_
                        refine w_const rfl ?_
                        refine w_invV (rest := []) rfl rfl rfl rfl rfl (Nat.le_of_ble_eq_true rfl) rfl (by omega) (s_passes (K := K) a100 b  1260 ha100 (by omega) ((ACm.fr (m := 21) (hD31) fa100.1 (by decide))) (CDI.fr hC ((FR.tr (hF31) (FR.sub fa100.1 (by decide))) : FR [0, 13, 14, 15, 17] a a100) (by decide) (by decide) (by decide)) (by have z9 : (a100 15 1260).toInt ≤ k.toInt := (by rw [fa100.1 15 (by decide)]; omega); exact ⟨show (a100 15 1260).toInt + 1 ≤ _ by omega, show (a100 15 1260).toInt + 1 ≤ _ by omega⟩)) (fun v123 h9 hq124 => ?_)
                        obtain ⟨a125, rfl, ha125, fa125, rfl⟩ := hq124
                        show f_wp _ (191, [some (.inr (.inr (some 0))), some (.inl w), some (.inl b1), some (.inl b2), some (.inl k), some (.inl x18), some (.inl x21), some (.inl x24), some (.inl 0)], [], mH a125 b) _
                        exact loop191 _ 0 a125 rfl ha125 (FR.tr (FR.tr (hF31) (FR.sub fa100.1 (by decide))) (FR.sub fa125.1 (by decide))) (fun (m9 : Nat) (l9 : m9 < 21) (h7 : ACm m9 a) => fa125.2.1 m9 (by omega) ((fun (m9 : Nat) (l9 : m9 < 21) (h7 : ACm m9 a) => ACm.fr ((hC31) m9 l9 h7) fa100.1 (by decide)) m9 l9 h7)) (by rw [show (a125 15 1260).toInt = _ from fa125.2.2.1, show (1260 : Int32).toInt.toNat = 1260 from rfl]; rw [fa100.1 15 (by decide)]; omega) ((fa125.2.1 21 (by decide) (ACm.fr (m := 21) (hD31) fa100.1 (by decide))))
                    · skip
                      refine w_iload rfl rfl ?_
                      refine w_const rfl ?_
                      refine w_ic_ne rfl (fun c126 => ?_) (fun c126 => ?_)
                      · skip
                        refine w_aload rfl rfl ?_
                        refine w_getR (v := .inr (.inr (some 15))) rfl rfl rfl rfl rfl ?_
                        refine w_const rfl ?_
                        refine w_iload rfl rfl ?_
                        first | refine w_iadd rfl (by omega) (fun x127 tx127 => ?_) | refine w_iiU rfl (fun x127 tx127 => ?_)
                        refine w_const rfl ?_
                        refine m_iast rfl rfl (by omega) (fun a128 ea128 => ?_)
                        have ha128 : RM K a128 := RM.up ha100 ea128 (st_wed (by omega) (by omega))
                        refine w_goto rfl ?_
                        exact loop191 _ 0 a128 rfl ha128 (FR.up (FR.tr (hF31) (FR.sub fa100.1 (by decide))) (by decide) ea128) (fun (m9 : Nat) (l9 : m9 < 21) (h7 : ACm m9 a) => ACm.put ((fun (m9 : Nat) (l9 : m9 < 21) (h7 : ACm m9 a) => ACm.fr ((hC31) m9 l9 h7) fa100.1 (by decide)) m9 l9 h7) ea128 (by omega)) (by rw [ea128, mU_slot (by omega)]; rw [fa100.1 15 (by decide)]; omega) ((ACm.put (m := 21) (ACm.fr (m := 21) (hD31) fa100.1 (by decide)) ea128 (by omega)))
                      · skip
                        refine w_iload rfl rfl ?_
                        refine w_if_eq rfl (fun c129 => ?_) (fun c129 => ?_)
                        · skip
                          exact loop191 _ 0 a100 rfl ha100 (FR.tr (hF31) (FR.sub fa100.1 (by decide))) (fun (m9 : Nat) (l9 : m9 < 21) (h7 : ACm m9 a) => ACm.fr ((hC31) m9 l9 h7) fa100.1 (by decide)) (by rw [fa100.1 15 (by decide)]; omega) ((ACm.fr (m := 21) (hD31) fa100.1 (by decide)))
                        · skip
                          refine w_aload rfl rfl ?_
                          refine w_const rfl ?_
                          refine w_invV (rest := []) rfl rfl rfl rfl rfl (Nat.le_of_ble_eq_true rfl) rfl (by omega) (s_passes (K := K) a100 b  1260 ha100 (by omega) ((ACm.fr (m := 21) (hD31) fa100.1 (by decide))) (CDI.fr hC ((FR.tr (hF31) (FR.sub fa100.1 (by decide))) : FR [0, 13, 14, 15, 17] a a100) (by decide) (by decide) (by decide)) (by have z9 : (a100 15 1260).toInt ≤ k.toInt := (by rw [fa100.1 15 (by decide)]; omega); exact ⟨show (a100 15 1260).toInt + 1 ≤ _ by omega, show (a100 15 1260).toInt + 1 ≤ _ by omega⟩)) (fun v130 h9 hq131 => ?_)
                          obtain ⟨a132, rfl, ha132, fa132, rfl⟩ := hq131
                          show f_wp _ (191, [some (.inr (.inr (some 0))), some (.inl w), some (.inl b1), some (.inl b2), some (.inl k), some (.inl x18), some (.inl x21), some (.inl x24), some (.inl 0)], [], mH a132 b) _
                          exact loop191 _ 0 a132 rfl ha132 (FR.tr (FR.tr (hF31) (FR.sub fa100.1 (by decide))) (FR.sub fa132.1 (by decide))) (fun (m9 : Nat) (l9 : m9 < 21) (h7 : ACm m9 a) => fa132.2.1 m9 (by omega) ((fun (m9 : Nat) (l9 : m9 < 21) (h7 : ACm m9 a) => ACm.fr ((hC31) m9 l9 h7) fa100.1 (by decide)) m9 l9 h7)) (by rw [show (a132 15 1260).toInt = _ from fa132.2.2.1, show (1260 : Int32).toInt.toNat = 1260 from rfl]; rw [fa100.1 15 (by decide)]; omega) ((fa132.2.1 21 (by decide) (ACm.fr (m := 21) (hD31) fa100.1 (by decide))))
              · skip
                obtain ⟨-, -, -, m7⟩ := pw.resolve_right (by omega)
                have hcc : ∀ k9, itr a100 1260 k9 x24.toInt.toNat ≠ some x21.toInt.toNat := fun k9 => by have m6 := (itr_same (a' := a100) hR31 (q := 1260) (h := x24.toInt.toNat) (by decide) (by omega) (fun r9 h9 => by rw [fa100.1 15 (by decide)]) k9).1; rw [m6]; exact m7 k9
                refine w_goto rfl ?_
                refine w_const rfl ?_
                refine w_goto rfl ?_
                refine w_istore (lo' := [some (.inr (.inr (some 0))), some (.inl w), some (.inl b1), some (.inl b2), some (.inl k), some (.inl x18), some (.inl x21), some (.inl x24), some (.inl 1)]) rfl rfl ?_
                refine w_iload rfl rfl ?_
                refine w_if_eq rfl (fun c133 => ?_) (fun c133 => ?_)
                · skip
                  refine w_iload rfl rfl ?_
                  refine w_if_eq rfl (fun c134 => ?_) (fun c134 => ?_)
                  · skip
                    refine w_iload rfl rfl ?_
                    refine w_if_eq rfl (fun c135 => ?_) (fun c135 => ?_)
                    · skip
                      exact loop191 _ 1 a100 rfl ha100 (FR.tr (hF31) (FR.sub fa100.1 (by decide))) (fun (m9 : Nat) (l9 : m9 < 21) (h7 : ACm m9 a) => ACm.fr ((hC31) m9 l9 h7) fa100.1 (by decide)) (by rw [fa100.1 15 (by decide)]; omega) ((ACm.fr (m := 21) (hD31) fa100.1 (by decide)))
                    · skip
                      refine w_aload rfl rfl ?_
                      refine w_const rfl ?_
                      refine w_invV (rest := []) rfl rfl rfl rfl rfl (Nat.le_of_ble_eq_true rfl) rfl (by omega) (s_passes (K := K) a100 b  1260 ha100 (by omega) ((ACm.fr (m := 21) (hD31) fa100.1 (by decide))) (CDI.fr hC ((FR.tr (hF31) (FR.sub fa100.1 (by decide))) : FR [0, 13, 14, 15, 17] a a100) (by decide) (by decide) (by decide)) (by have z9 : (a100 15 1260).toInt ≤ k.toInt := (by rw [fa100.1 15 (by decide)]; omega); exact ⟨show (a100 15 1260).toInt + 1 ≤ _ by omega, show (a100 15 1260).toInt + 1 ≤ _ by omega⟩)) (fun v136 h9 hq137 => ?_)
                      obtain ⟨a138, rfl, ha138, fa138, rfl⟩ := hq137
                      show f_wp _ (191, [some (.inr (.inr (some 0))), some (.inl w), some (.inl b1), some (.inl b2), some (.inl k), some (.inl x18), some (.inl x21), some (.inl x24), some (.inl 1)], [], mH a138 b) _
                      exact loop191 _ 1 a138 rfl ha138 (FR.tr (FR.tr (hF31) (FR.sub fa100.1 (by decide))) (FR.sub fa138.1 (by decide))) (fun (m9 : Nat) (l9 : m9 < 21) (h7 : ACm m9 a) => fa138.2.1 m9 (by omega) ((fun (m9 : Nat) (l9 : m9 < 21) (h7 : ACm m9 a) => ACm.fr ((hC31) m9 l9 h7) fa100.1 (by decide)) m9 l9 h7)) (by rw [show (a138 15 1260).toInt = _ from fa138.2.2.1, show (1260 : Int32).toInt.toNat = 1260 from rfl]; rw [fa100.1 15 (by decide)]; omega) ((fa138.2.1 21 (by decide) (ACm.fr (m := 21) (hD31) fa100.1 (by decide))))
                  · skip
                    refine w_iload rfl rfl ?_
                    refine w_const rfl ?_
                    refine w_ic_ne rfl (fun c139 => ?_) (fun c139 => ?_)
                    · skip
                      refine w_aload rfl rfl ?_
                      refine w_getR (v := .inr (.inr (some 15))) rfl rfl rfl rfl rfl ?_
                      refine w_const rfl ?_
                      refine w_iload rfl rfl ?_
                      first | refine w_iadd rfl (by omega) (fun x140 tx140 => ?_) | refine w_iiU rfl (fun x140 tx140 => ?_)
                      refine w_const rfl ?_
                      refine m_iast rfl rfl (by omega) (fun a141 ea141 => ?_)
                      have ha141 : RM K a141 := RM.up ha100 ea141 (st_wed (by omega) (by omega))
                      refine w_goto rfl ?_
                      exact loop191 _ 1 a141 rfl ha141 (FR.up (FR.tr (hF31) (FR.sub fa100.1 (by decide))) (by decide) ea141) (fun (m9 : Nat) (l9 : m9 < 21) (h7 : ACm m9 a) => ACm.put ((fun (m9 : Nat) (l9 : m9 < 21) (h7 : ACm m9 a) => ACm.fr ((hC31) m9 l9 h7) fa100.1 (by decide)) m9 l9 h7) ea141 (by omega)) (by rw [ea141, mU_slot (by omega)]; rw [fa100.1 15 (by decide)]; omega) ((ACm.put (m := 21) (ACm.fr (m := 21) (hD31) fa100.1 (by decide)) ea141 (by omega)))
                    · skip
                      refine w_iload rfl rfl ?_
                      refine w_if_eq rfl (fun c142 => ?_) (fun c142 => ?_)
                      · skip
                        exact loop191 _ 1 a100 rfl ha100 (FR.tr (hF31) (FR.sub fa100.1 (by decide))) (fun (m9 : Nat) (l9 : m9 < 21) (h7 : ACm m9 a) => ACm.fr ((hC31) m9 l9 h7) fa100.1 (by decide)) (by rw [fa100.1 15 (by decide)]; omega) ((ACm.fr (m := 21) (hD31) fa100.1 (by decide)))
                      · skip
                        refine w_aload rfl rfl ?_
                        refine w_const rfl ?_
                        refine w_invV (rest := []) rfl rfl rfl rfl rfl (Nat.le_of_ble_eq_true rfl) rfl (by omega) (s_passes (K := K) a100 b  1260 ha100 (by omega) ((ACm.fr (m := 21) (hD31) fa100.1 (by decide))) (CDI.fr hC ((FR.tr (hF31) (FR.sub fa100.1 (by decide))) : FR [0, 13, 14, 15, 17] a a100) (by decide) (by decide) (by decide)) (by have z9 : (a100 15 1260).toInt ≤ k.toInt := (by rw [fa100.1 15 (by decide)]; omega); exact ⟨show (a100 15 1260).toInt + 1 ≤ _ by omega, show (a100 15 1260).toInt + 1 ≤ _ by omega⟩)) (fun v143 h9 hq144 => ?_)
                        obtain ⟨a145, rfl, ha145, fa145, rfl⟩ := hq144
                        show f_wp _ (191, [some (.inr (.inr (some 0))), some (.inl w), some (.inl b1), some (.inl b2), some (.inl k), some (.inl x18), some (.inl x21), some (.inl x24), some (.inl 1)], [], mH a145 b) _
                        exact loop191 _ 1 a145 rfl ha145 (FR.tr (FR.tr (hF31) (FR.sub fa100.1 (by decide))) (FR.sub fa145.1 (by decide))) (fun (m9 : Nat) (l9 : m9 < 21) (h7 : ACm m9 a) => fa145.2.1 m9 (by omega) ((fun (m9 : Nat) (l9 : m9 < 21) (h7 : ACm m9 a) => ACm.fr ((hC31) m9 l9 h7) fa100.1 (by decide)) m9 l9 h7)) (by rw [show (a145 15 1260).toInt = _ from fa145.2.2.1, show (1260 : Int32).toInt.toNat = 1260 from rfl]; rw [fa100.1 15 (by decide)]; omega) ((fa145.2.1 21 (by decide) (ACm.fr (m := 21) (hD31) fa100.1 (by decide))))
                · skip
                  refine w_iload rfl rfl ?_
                  refine w_if_ne rfl (fun c146 => ?_) (fun c146 => ?_)
                  · skip
                    refine w_aload rfl rfl ?_
                    refine w_const rfl ?_
                    refine w_iload rfl rfl ?_
                    refine w_iload rfl rfl ?_
                    refine w_invV (rest := []) rfl rfl rfl rfl rfl (Nat.le_of_ble_eq_true rfl) rfl (by omega) (s_weds (K := K) a100 b  1260 x21 x24 ha100 (by omega) (by omega) (by omega) ((ACm.fr (m := 21) (hD31) fa100.1 (by decide))) (CDI.fr hC ((FR.tr (hF31) (FR.sub fa100.1 (by decide))) : FR [0, 13, 14, 15, 17] a a100) (by decide) (by decide) (by decide)) (by first | exact hcc | (exfalso; omega))) (fun v147 h9 hq148 => ?_)
                    obtain ⟨a149, rfl, ha149, fa149, x150, rfl, px150⟩ := hq148
                    show f_wp _ (149, [some (.inr (.inr (some 0))), some (.inl w), some (.inl b1), some (.inl b2), some (.inl k), some (.inl x18), some (.inl x21), some (.inl x24), some (.inl 1)], [.inl x150], mH a149 b) _
                    refine w_pop rfl rfl ?_
                    refine w_goto rfl ?_
                    exact loop191 _ 1 a149 rfl ha149 (FR.tr (FR.tr (hF31) (FR.sub fa100.1 (by decide))) (FR.sub fa149.1 (by decide))) (fun (m9 : Nat) (l9 : m9 < 21) (h7 : ACm m9 a) => fa149.2.1 m9 (by omega) ((fun (m9 : Nat) (l9 : m9 < 21) (h7 : ACm m9 a) => ACm.fr ((hC31) m9 l9 h7) fa100.1 (by decide)) m9 l9 h7)) (by rw [fa149.2.2 1260 (Or.inl (by decide))]; rw [fa100.1 15 (by decide)]; omega) ((fa149.2.1 21 (by decide) (ACm.fr (m := 21) (hD31) fa100.1 (by decide))))
                  · skip
                    refine w_iload rfl rfl ?_
                    refine w_if_eq rfl (fun c151 => ?_) (fun c151 => ?_)
                    · skip
                      refine w_iload rfl rfl ?_
                      refine w_if_eq rfl (fun c152 => ?_) (fun c152 => ?_)
                      · skip
                        exact loop191 _ 1 a100 rfl ha100 (FR.tr (hF31) (FR.sub fa100.1 (by decide))) (fun (m9 : Nat) (l9 : m9 < 21) (h7 : ACm m9 a) => ACm.fr ((hC31) m9 l9 h7) fa100.1 (by decide)) (by rw [fa100.1 15 (by decide)]; omega) ((ACm.fr (m := 21) (hD31) fa100.1 (by decide)))
                      · skip
                        refine w_aload rfl rfl ?_
                        refine w_const rfl ?_
                        refine w_invV (rest := []) rfl rfl rfl rfl rfl (Nat.le_of_ble_eq_true rfl) rfl (by omega) (s_passes (K := K) a100 b  1260 ha100 (by omega) ((ACm.fr (m := 21) (hD31) fa100.1 (by decide))) (CDI.fr hC ((FR.tr (hF31) (FR.sub fa100.1 (by decide))) : FR [0, 13, 14, 15, 17] a a100) (by decide) (by decide) (by decide)) (by have z9 : (a100 15 1260).toInt ≤ k.toInt := (by rw [fa100.1 15 (by decide)]; omega); exact ⟨show (a100 15 1260).toInt + 1 ≤ _ by omega, show (a100 15 1260).toInt + 1 ≤ _ by omega⟩)) (fun v153 h9 hq154 => ?_)
                        obtain ⟨a155, rfl, ha155, fa155, rfl⟩ := hq154
                        show f_wp _ (191, [some (.inr (.inr (some 0))), some (.inl w), some (.inl b1), some (.inl b2), some (.inl k), some (.inl x18), some (.inl x21), some (.inl x24), some (.inl 1)], [], mH a155 b) _
                        exact loop191 _ 1 a155 rfl ha155 (FR.tr (FR.tr (hF31) (FR.sub fa100.1 (by decide))) (FR.sub fa155.1 (by decide))) (fun (m9 : Nat) (l9 : m9 < 21) (h7 : ACm m9 a) => fa155.2.1 m9 (by omega) ((fun (m9 : Nat) (l9 : m9 < 21) (h7 : ACm m9 a) => ACm.fr ((hC31) m9 l9 h7) fa100.1 (by decide)) m9 l9 h7)) (by rw [show (a155 15 1260).toInt = _ from fa155.2.2.1, show (1260 : Int32).toInt.toNat = 1260 from rfl]; rw [fa100.1 15 (by decide)]; omega) ((fa155.2.1 21 (by decide) (ACm.fr (m := 21) (hD31) fa100.1 (by decide))))
                    · skip
                      refine w_iload rfl rfl ?_
                      refine w_const rfl ?_
                      refine w_ic_ne rfl (fun c156 => ?_) (fun c156 => ?_)
                      · skip
                        refine w_aload rfl rfl ?_
                        refine w_getR (v := .inr (.inr (some 15))) rfl rfl rfl rfl rfl ?_
                        refine w_const rfl ?_
                        refine w_iload rfl rfl ?_
                        first | refine w_iadd rfl (by omega) (fun x157 tx157 => ?_) | refine w_iiU rfl (fun x157 tx157 => ?_)
                        refine w_const rfl ?_
                        refine m_iast rfl rfl (by omega) (fun a158 ea158 => ?_)
                        have ha158 : RM K a158 := RM.up ha100 ea158 (st_wed (by omega) (by omega))
                        refine w_goto rfl ?_
                        exact loop191 _ 1 a158 rfl ha158 (FR.up (FR.tr (hF31) (FR.sub fa100.1 (by decide))) (by decide) ea158) (fun (m9 : Nat) (l9 : m9 < 21) (h7 : ACm m9 a) => ACm.put ((fun (m9 : Nat) (l9 : m9 < 21) (h7 : ACm m9 a) => ACm.fr ((hC31) m9 l9 h7) fa100.1 (by decide)) m9 l9 h7) ea158 (by omega)) (by rw [ea158, mU_slot (by omega)]; rw [fa100.1 15 (by decide)]; omega) ((ACm.put (m := 21) (ACm.fr (m := 21) (hD31) fa100.1 (by decide)) ea158 (by omega)))
                      · skip
                        refine w_iload rfl rfl ?_
                        refine w_if_eq rfl (fun c159 => ?_) (fun c159 => ?_)
                        · skip
                          exact loop191 _ 1 a100 rfl ha100 (FR.tr (hF31) (FR.sub fa100.1 (by decide))) (fun (m9 : Nat) (l9 : m9 < 21) (h7 : ACm m9 a) => ACm.fr ((hC31) m9 l9 h7) fa100.1 (by decide)) (by rw [fa100.1 15 (by decide)]; omega) ((ACm.fr (m := 21) (hD31) fa100.1 (by decide)))
                        · skip
                          refine w_aload rfl rfl ?_
                          refine w_const rfl ?_
                          refine w_invV (rest := []) rfl rfl rfl rfl rfl (Nat.le_of_ble_eq_true rfl) rfl (by omega) (s_passes (K := K) a100 b  1260 ha100 (by omega) ((ACm.fr (m := 21) (hD31) fa100.1 (by decide))) (CDI.fr hC ((FR.tr (hF31) (FR.sub fa100.1 (by decide))) : FR [0, 13, 14, 15, 17] a a100) (by decide) (by decide) (by decide)) (by have z9 : (a100 15 1260).toInt ≤ k.toInt := (by rw [fa100.1 15 (by decide)]; omega); exact ⟨show (a100 15 1260).toInt + 1 ≤ _ by omega, show (a100 15 1260).toInt + 1 ≤ _ by omega⟩)) (fun v160 h9 hq161 => ?_)
                          obtain ⟨a162, rfl, ha162, fa162, rfl⟩ := hq161
                          show f_wp _ (191, [some (.inr (.inr (some 0))), some (.inl w), some (.inl b1), some (.inl b2), some (.inl k), some (.inl x18), some (.inl x21), some (.inl x24), some (.inl 1)], [], mH a162 b) _
                          exact loop191 _ 1 a162 rfl ha162 (FR.tr (FR.tr (hF31) (FR.sub fa100.1 (by decide))) (FR.sub fa162.1 (by decide))) (fun (m9 : Nat) (l9 : m9 < 21) (h7 : ACm m9 a) => fa162.2.1 m9 (by omega) ((fun (m9 : Nat) (l9 : m9 < 21) (h7 : ACm m9 a) => ACm.fr ((hC31) m9 l9 h7) fa100.1 (by decide)) m9 l9 h7)) (by rw [show (a162 15 1260).toInt = _ from fa162.2.2.1, show (1260 : Int32).toInt.toNat = 1260 from rfl]; rw [fa100.1 15 (by decide)]; omega) ((fa162.2.1 21 (by decide) (ACm.fr (m := 21) (hD31) fa100.1 (by decide))))
            · skip
              refine w_aload rfl rfl ?_
              refine w_const rfl ?_
              refine w_iload rfl rfl ?_
              refine w_invV (rest := []) rfl rfl rfl rfl rfl (Nat.le_of_ble_eq_true rfl) rfl (by omega) (s_husbandOf (K := K) a31 b  1260 x21 hR31 (by omega) (by omega)) (fun v163 h9 hq164 => ?_)
              obtain ⟨rfl, x165, rfl, px165⟩ := hq164
              show f_wp _ (118, [some (.inr (.inr (some 0))), some (.inl w), some (.inl b1), some (.inl b2), some (.inl k), some (.inl x18), some (.inl x21), some (.inl x24), o8_31], [.inl x165], mH a31 b) _
              refine w_if_lt rfl (fun c166 => ?_) (fun c166 => ?_)
              · skip
                refine w_const rfl ?_
                refine w_istore (lo' := [some (.inr (.inr (some 0))), some (.inl w), some (.inl b1), some (.inl b2), some (.inl k), some (.inl x18), some (.inl x21), some (.inl x24), some (.inl 0)]) rfl rfl ?_
                refine w_iload rfl rfl ?_
                refine w_if_eq rfl (fun c167 => ?_) (fun c167 => ?_)
                · skip
                  refine w_iload rfl rfl ?_
                  refine w_if_eq rfl (fun c168 => ?_) (fun c168 => ?_)
                  · skip
                    refine w_iload rfl rfl ?_
                    refine w_if_eq rfl (fun c169 => ?_) (fun c169 => ?_)
                    · skip
                      exact loop191 _ 0 a31 rfl hR31 (hF31) (hC31) (by omega) ((hD31))
                    · skip
                      refine w_aload rfl rfl ?_
                      refine w_const rfl ?_
                      refine w_invV (rest := []) rfl rfl rfl rfl rfl (Nat.le_of_ble_eq_true rfl) rfl (by omega) (s_passes (K := K) a31 b  1260 hR31 (by omega) ((hD31)) (CDI.fr hC ((hF31) : FR [0, 13, 14, 15, 17] a a31) (by decide) (by decide) (by decide)) (by have z9 : (a31 15 1260).toInt ≤ k.toInt := (by omega); exact ⟨show (a31 15 1260).toInt + 1 ≤ _ by omega, show (a31 15 1260).toInt + 1 ≤ _ by omega⟩)) (fun v170 h9 hq171 => ?_)
                      obtain ⟨a172, rfl, ha172, fa172, rfl⟩ := hq171
                      show f_wp _ (191, [some (.inr (.inr (some 0))), some (.inl w), some (.inl b1), some (.inl b2), some (.inl k), some (.inl x18), some (.inl x21), some (.inl x24), some (.inl 0)], [], mH a172 b) _
                      exact loop191 _ 0 a172 rfl ha172 (FR.tr (hF31) (FR.sub fa172.1 (by decide))) (fun (m9 : Nat) (l9 : m9 < 21) (h7 : ACm m9 a) => fa172.2.1 m9 (by omega) ((hC31) m9 l9 h7)) (by rw [show (a172 15 1260).toInt = _ from fa172.2.2.1, show (1260 : Int32).toInt.toNat = 1260 from rfl]; omega) ((fa172.2.1 21 (by decide) (hD31)))
                  · skip
                    refine w_iload rfl rfl ?_
                    refine w_const rfl ?_
                    refine w_ic_ne rfl (fun c173 => ?_) (fun c173 => ?_)
                    · skip
                      refine w_aload rfl rfl ?_
                      refine w_getR (v := .inr (.inr (some 15))) rfl rfl rfl rfl rfl ?_
                      refine w_const rfl ?_
                      refine w_iload rfl rfl ?_
                      first | refine w_iadd rfl (by omega) (fun x174 tx174 => ?_) | refine w_iiU rfl (fun x174 tx174 => ?_)
                      refine w_const rfl ?_
                      refine m_iast rfl rfl (by omega) (fun a175 ea175 => ?_)
                      have ha175 : RM K a175 := RM.up hR31 ea175 (st_wed (by omega) (by omega))
                      refine w_goto rfl ?_
                      exact loop191 _ 0 a175 rfl ha175 (FR.up (hF31) (by decide) ea175) (fun (m9 : Nat) (l9 : m9 < 21) (h7 : ACm m9 a) => ACm.put ((hC31) m9 l9 h7) ea175 (by omega)) (by rw [ea175, mU_slot (by omega)]; omega) ((ACm.put (m := 21) (hD31) ea175 (by omega)))
                    · skip
                      refine w_iload rfl rfl ?_
                      refine w_if_eq rfl (fun c176 => ?_) (fun c176 => ?_)
                      · skip
                        exact loop191 _ 0 a31 rfl hR31 (hF31) (hC31) (by omega) ((hD31))
                      · skip
                        refine w_aload rfl rfl ?_
                        refine w_const rfl ?_
                        refine w_invV (rest := []) rfl rfl rfl rfl rfl (Nat.le_of_ble_eq_true rfl) rfl (by omega) (s_passes (K := K) a31 b  1260 hR31 (by omega) ((hD31)) (CDI.fr hC ((hF31) : FR [0, 13, 14, 15, 17] a a31) (by decide) (by decide) (by decide)) (by have z9 : (a31 15 1260).toInt ≤ k.toInt := (by omega); exact ⟨show (a31 15 1260).toInt + 1 ≤ _ by omega, show (a31 15 1260).toInt + 1 ≤ _ by omega⟩)) (fun v177 h9 hq178 => ?_)
                        obtain ⟨a179, rfl, ha179, fa179, rfl⟩ := hq178
                        show f_wp _ (191, [some (.inr (.inr (some 0))), some (.inl w), some (.inl b1), some (.inl b2), some (.inl k), some (.inl x18), some (.inl x21), some (.inl x24), some (.inl 0)], [], mH a179 b) _
                        exact loop191 _ 0 a179 rfl ha179 (FR.tr (hF31) (FR.sub fa179.1 (by decide))) (fun (m9 : Nat) (l9 : m9 < 21) (h7 : ACm m9 a) => fa179.2.1 m9 (by omega) ((hC31) m9 l9 h7)) (by rw [show (a179 15 1260).toInt = _ from fa179.2.2.1, show (1260 : Int32).toInt.toNat = 1260 from rfl]; omega) ((fa179.2.1 21 (by decide) (hD31)))
                · skip
                  refine w_iload rfl rfl ?_
                  refine w_if_ne rfl (fun c180 => ?_) (fun c180 => ?_)
                  · skip
                    refine w_aload rfl rfl ?_
                    refine w_const rfl ?_
                    refine w_iload rfl rfl ?_
                    refine w_iload rfl rfl ?_
                    refine w_invV (rest := []) rfl rfl rfl rfl rfl (Nat.le_of_ble_eq_true rfl) rfl (by omega) (s_weds (K := K) a31 b  1260 x21 x24 hR31 (by omega) (by omega) (by omega) ((hD31)) (CDI.fr hC ((hF31) : FR [0, 13, 14, 15, 17] a a31) (by decide) (by decide) (by decide)) (by first | exact hcc | (exfalso; omega))) (fun v181 h9 hq182 => ?_)
                    obtain ⟨a183, rfl, ha183, fa183, x184, rfl, px184⟩ := hq182
                    show f_wp _ (149, [some (.inr (.inr (some 0))), some (.inl w), some (.inl b1), some (.inl b2), some (.inl k), some (.inl x18), some (.inl x21), some (.inl x24), some (.inl 0)], [.inl x184], mH a183 b) _
                    refine w_pop rfl rfl ?_
                    refine w_goto rfl ?_
                    exact loop191 _ 0 a183 rfl ha183 (FR.tr (hF31) (FR.sub fa183.1 (by decide))) (fun (m9 : Nat) (l9 : m9 < 21) (h7 : ACm m9 a) => fa183.2.1 m9 (by omega) ((hC31) m9 l9 h7)) (by rw [fa183.2.2 1260 (Or.inl (by decide))]; omega) ((fa183.2.1 21 (by decide) (hD31)))
                  · skip
                    refine w_iload rfl rfl ?_
                    refine w_if_eq rfl (fun c185 => ?_) (fun c185 => ?_)
                    · skip
                      refine w_iload rfl rfl ?_
                      refine w_if_eq rfl (fun c186 => ?_) (fun c186 => ?_)
                      · skip
                        exact loop191 _ 0 a31 rfl hR31 (hF31) (hC31) (by omega) ((hD31))
                      · skip
                        refine w_aload rfl rfl ?_
                        refine w_const rfl ?_
                        refine w_invV (rest := []) rfl rfl rfl rfl rfl (Nat.le_of_ble_eq_true rfl) rfl (by omega) (s_passes (K := K) a31 b  1260 hR31 (by omega) ((hD31)) (CDI.fr hC ((hF31) : FR [0, 13, 14, 15, 17] a a31) (by decide) (by decide) (by decide)) (by have z9 : (a31 15 1260).toInt ≤ k.toInt := (by omega); exact ⟨show (a31 15 1260).toInt + 1 ≤ _ by omega, show (a31 15 1260).toInt + 1 ≤ _ by omega⟩)) (fun v187 h9 hq188 => ?_)
                        obtain ⟨a189, rfl, ha189, fa189, rfl⟩ := hq188
                        show f_wp _ (191, [some (.inr (.inr (some 0))), some (.inl w), some (.inl b1), some (.inl b2), some (.inl k), some (.inl x18), some (.inl x21), some (.inl x24), some (.inl 0)], [], mH a189 b) _
                        exact loop191 _ 0 a189 rfl ha189 (FR.tr (hF31) (FR.sub fa189.1 (by decide))) (fun (m9 : Nat) (l9 : m9 < 21) (h7 : ACm m9 a) => fa189.2.1 m9 (by omega) ((hC31) m9 l9 h7)) (by rw [show (a189 15 1260).toInt = _ from fa189.2.2.1, show (1260 : Int32).toInt.toNat = 1260 from rfl]; omega) ((fa189.2.1 21 (by decide) (hD31)))
                    · skip
                      refine w_iload rfl rfl ?_
                      refine w_const rfl ?_
                      refine w_ic_ne rfl (fun c190 => ?_) (fun c190 => ?_)
                      · skip
                        refine w_aload rfl rfl ?_
                        refine w_getR (v := .inr (.inr (some 15))) rfl rfl rfl rfl rfl ?_
                        refine w_const rfl ?_
                        refine w_iload rfl rfl ?_
                        first | refine w_iadd rfl (by omega) (fun x191 tx191 => ?_) | refine w_iiU rfl (fun x191 tx191 => ?_)
                        refine w_const rfl ?_
                        refine m_iast rfl rfl (by omega) (fun a192 ea192 => ?_)
                        have ha192 : RM K a192 := RM.up hR31 ea192 (st_wed (by omega) (by omega))
                        refine w_goto rfl ?_
                        exact loop191 _ 0 a192 rfl ha192 (FR.up (hF31) (by decide) ea192) (fun (m9 : Nat) (l9 : m9 < 21) (h7 : ACm m9 a) => ACm.put ((hC31) m9 l9 h7) ea192 (by omega)) (by rw [ea192, mU_slot (by omega)]; omega) ((ACm.put (m := 21) (hD31) ea192 (by omega)))
                      · skip
                        refine w_iload rfl rfl ?_
                        refine w_if_eq rfl (fun c193 => ?_) (fun c193 => ?_)
                        · skip
                          exact loop191 _ 0 a31 rfl hR31 (hF31) (hC31) (by omega) ((hD31))
                        · skip
                          refine w_aload rfl rfl ?_
                          refine w_const rfl ?_
                          refine w_invV (rest := []) rfl rfl rfl rfl rfl (Nat.le_of_ble_eq_true rfl) rfl (by omega) (s_passes (K := K) a31 b  1260 hR31 (by omega) ((hD31)) (CDI.fr hC ((hF31) : FR [0, 13, 14, 15, 17] a a31) (by decide) (by decide) (by decide)) (by have z9 : (a31 15 1260).toInt ≤ k.toInt := (by omega); exact ⟨show (a31 15 1260).toInt + 1 ≤ _ by omega, show (a31 15 1260).toInt + 1 ≤ _ by omega⟩)) (fun v194 h9 hq195 => ?_)
                          obtain ⟨a196, rfl, ha196, fa196, rfl⟩ := hq195
                          show f_wp _ (191, [some (.inr (.inr (some 0))), some (.inl w), some (.inl b1), some (.inl b2), some (.inl k), some (.inl x18), some (.inl x21), some (.inl x24), some (.inl 0)], [], mH a196 b) _
                          exact loop191 _ 0 a196 rfl ha196 (FR.tr (hF31) (FR.sub fa196.1 (by decide))) (fun (m9 : Nat) (l9 : m9 < 21) (h7 : ACm m9 a) => fa196.2.1 m9 (by omega) ((hC31) m9 l9 h7)) (by rw [show (a196 15 1260).toInt = _ from fa196.2.2.1, show (1260 : Int32).toInt.toNat = 1260 from rfl]; omega) ((fa196.2.1 21 (by decide) (hD31)))
              · skip
                refine w_const rfl ?_
                refine w_goto rfl ?_
                refine w_istore (lo' := [some (.inr (.inr (some 0))), some (.inl w), some (.inl b1), some (.inl b2), some (.inl k), some (.inl x18), some (.inl x21), some (.inl x24), some (.inl 1)]) rfl rfl ?_
                refine w_iload rfl rfl ?_
                refine w_if_eq rfl (fun c197 => ?_) (fun c197 => ?_)
                · skip
                  refine w_iload rfl rfl ?_
                  refine w_if_eq rfl (fun c198 => ?_) (fun c198 => ?_)
                  · skip
                    refine w_iload rfl rfl ?_
                    refine w_if_eq rfl (fun c199 => ?_) (fun c199 => ?_)
                    · skip
                      exact loop191 _ 1 a31 rfl hR31 (hF31) (hC31) (by omega) ((hD31))
                    · skip
                      refine w_aload rfl rfl ?_
                      refine w_const rfl ?_
                      refine w_invV (rest := []) rfl rfl rfl rfl rfl (Nat.le_of_ble_eq_true rfl) rfl (by omega) (s_passes (K := K) a31 b  1260 hR31 (by omega) ((hD31)) (CDI.fr hC ((hF31) : FR [0, 13, 14, 15, 17] a a31) (by decide) (by decide) (by decide)) (by have z9 : (a31 15 1260).toInt ≤ k.toInt := (by omega); exact ⟨show (a31 15 1260).toInt + 1 ≤ _ by omega, show (a31 15 1260).toInt + 1 ≤ _ by omega⟩)) (fun v200 h9 hq201 => ?_)
                      obtain ⟨a202, rfl, ha202, fa202, rfl⟩ := hq201
                      show f_wp _ (191, [some (.inr (.inr (some 0))), some (.inl w), some (.inl b1), some (.inl b2), some (.inl k), some (.inl x18), some (.inl x21), some (.inl x24), some (.inl 1)], [], mH a202 b) _
                      exact loop191 _ 1 a202 rfl ha202 (FR.tr (hF31) (FR.sub fa202.1 (by decide))) (fun (m9 : Nat) (l9 : m9 < 21) (h7 : ACm m9 a) => fa202.2.1 m9 (by omega) ((hC31) m9 l9 h7)) (by rw [show (a202 15 1260).toInt = _ from fa202.2.2.1, show (1260 : Int32).toInt.toNat = 1260 from rfl]; omega) ((fa202.2.1 21 (by decide) (hD31)))
                  · skip
                    refine w_iload rfl rfl ?_
                    refine w_const rfl ?_
                    refine w_ic_ne rfl (fun c203 => ?_) (fun c203 => ?_)
                    · skip
                      refine w_aload rfl rfl ?_
                      refine w_getR (v := .inr (.inr (some 15))) rfl rfl rfl rfl rfl ?_
                      refine w_const rfl ?_
                      refine w_iload rfl rfl ?_
                      first | refine w_iadd rfl (by omega) (fun x204 tx204 => ?_) | refine w_iiU rfl (fun x204 tx204 => ?_)
                      refine w_const rfl ?_
                      refine m_iast rfl rfl (by omega) (fun a205 ea205 => ?_)
                      have ha205 : RM K a205 := RM.up hR31 ea205 (st_wed (by omega) (by omega))
                      refine w_goto rfl ?_
                      exact loop191 _ 1 a205 rfl ha205 (FR.up (hF31) (by decide) ea205) (fun (m9 : Nat) (l9 : m9 < 21) (h7 : ACm m9 a) => ACm.put ((hC31) m9 l9 h7) ea205 (by omega)) (by rw [ea205, mU_slot (by omega)]; omega) ((ACm.put (m := 21) (hD31) ea205 (by omega)))
                    · skip
                      refine w_iload rfl rfl ?_
                      refine w_if_eq rfl (fun c206 => ?_) (fun c206 => ?_)
                      · skip
                        exact loop191 _ 1 a31 rfl hR31 (hF31) (hC31) (by omega) ((hD31))
                      · skip
                        refine w_aload rfl rfl ?_
                        refine w_const rfl ?_
                        refine w_invV (rest := []) rfl rfl rfl rfl rfl (Nat.le_of_ble_eq_true rfl) rfl (by omega) (s_passes (K := K) a31 b  1260 hR31 (by omega) ((hD31)) (CDI.fr hC ((hF31) : FR [0, 13, 14, 15, 17] a a31) (by decide) (by decide) (by decide)) (by have z9 : (a31 15 1260).toInt ≤ k.toInt := (by omega); exact ⟨show (a31 15 1260).toInt + 1 ≤ _ by omega, show (a31 15 1260).toInt + 1 ≤ _ by omega⟩)) (fun v207 h9 hq208 => ?_)
                        obtain ⟨a209, rfl, ha209, fa209, rfl⟩ := hq208
                        show f_wp _ (191, [some (.inr (.inr (some 0))), some (.inl w), some (.inl b1), some (.inl b2), some (.inl k), some (.inl x18), some (.inl x21), some (.inl x24), some (.inl 1)], [], mH a209 b) _
                        exact loop191 _ 1 a209 rfl ha209 (FR.tr (hF31) (FR.sub fa209.1 (by decide))) (fun (m9 : Nat) (l9 : m9 < 21) (h7 : ACm m9 a) => fa209.2.1 m9 (by omega) ((hC31) m9 l9 h7)) (by rw [show (a209 15 1260).toInt = _ from fa209.2.2.1, show (1260 : Int32).toInt.toNat = 1260 from rfl]; omega) ((fa209.2.1 21 (by decide) (hD31)))
                · skip
                  refine w_iload rfl rfl ?_
                  refine w_if_ne rfl (fun c210 => ?_) (fun c210 => ?_)
                  · skip
                    refine w_aload rfl rfl ?_
                    refine w_const rfl ?_
                    refine w_iload rfl rfl ?_
                    refine w_iload rfl rfl ?_
                    refine w_invV (rest := []) rfl rfl rfl rfl rfl (Nat.le_of_ble_eq_true rfl) rfl (by omega) (s_weds (K := K) a31 b  1260 x21 x24 hR31 (by omega) (by omega) (by omega) ((hD31)) (CDI.fr hC ((hF31) : FR [0, 13, 14, 15, 17] a a31) (by decide) (by decide) (by decide)) (by first | exact hcc | (exfalso; omega))) (fun v211 h9 hq212 => ?_)
                    obtain ⟨a213, rfl, ha213, fa213, x214, rfl, px214⟩ := hq212
                    show f_wp _ (149, [some (.inr (.inr (some 0))), some (.inl w), some (.inl b1), some (.inl b2), some (.inl k), some (.inl x18), some (.inl x21), some (.inl x24), some (.inl 1)], [.inl x214], mH a213 b) _
                    refine w_pop rfl rfl ?_
                    refine w_goto rfl ?_
                    exact loop191 _ 1 a213 rfl ha213 (FR.tr (hF31) (FR.sub fa213.1 (by decide))) (fun (m9 : Nat) (l9 : m9 < 21) (h7 : ACm m9 a) => fa213.2.1 m9 (by omega) ((hC31) m9 l9 h7)) (by rw [fa213.2.2 1260 (Or.inl (by decide))]; omega) ((fa213.2.1 21 (by decide) (hD31)))
                  · skip
                    refine w_iload rfl rfl ?_
                    refine w_if_eq rfl (fun c215 => ?_) (fun c215 => ?_)
                    · skip
                      refine w_iload rfl rfl ?_
                      refine w_if_eq rfl (fun c216 => ?_) (fun c216 => ?_)
                      · skip
                        exact loop191 _ 1 a31 rfl hR31 (hF31) (hC31) (by omega) ((hD31))
                      · skip
                        refine w_aload rfl rfl ?_
                        refine w_const rfl ?_
                        refine w_invV (rest := []) rfl rfl rfl rfl rfl (Nat.le_of_ble_eq_true rfl) rfl (by omega) (s_passes (K := K) a31 b  1260 hR31 (by omega) ((hD31)) (CDI.fr hC ((hF31) : FR [0, 13, 14, 15, 17] a a31) (by decide) (by decide) (by decide)) (by have z9 : (a31 15 1260).toInt ≤ k.toInt := (by omega); exact ⟨show (a31 15 1260).toInt + 1 ≤ _ by omega, show (a31 15 1260).toInt + 1 ≤ _ by omega⟩)) (fun v217 h9 hq218 => ?_)
                        obtain ⟨a219, rfl, ha219, fa219, rfl⟩ := hq218
                        show f_wp _ (191, [some (.inr (.inr (some 0))), some (.inl w), some (.inl b1), some (.inl b2), some (.inl k), some (.inl x18), some (.inl x21), some (.inl x24), some (.inl 1)], [], mH a219 b) _
                        exact loop191 _ 1 a219 rfl ha219 (FR.tr (hF31) (FR.sub fa219.1 (by decide))) (fun (m9 : Nat) (l9 : m9 < 21) (h7 : ACm m9 a) => fa219.2.1 m9 (by omega) ((hC31) m9 l9 h7)) (by rw [show (a219 15 1260).toInt = _ from fa219.2.2.1, show (1260 : Int32).toInt.toNat = 1260 from rfl]; omega) ((fa219.2.1 21 (by decide) (hD31)))
                    · skip
                      refine w_iload rfl rfl ?_
                      refine w_const rfl ?_
                      refine w_ic_ne rfl (fun c220 => ?_) (fun c220 => ?_)
                      · skip
                        refine w_aload rfl rfl ?_
                        refine w_getR (v := .inr (.inr (some 15))) rfl rfl rfl rfl rfl ?_
                        refine w_const rfl ?_
                        refine w_iload rfl rfl ?_
                        first | refine w_iadd rfl (by omega) (fun x221 tx221 => ?_) | refine w_iiU rfl (fun x221 tx221 => ?_)
                        refine w_const rfl ?_
                        refine m_iast rfl rfl (by omega) (fun a222 ea222 => ?_)
                        have ha222 : RM K a222 := RM.up hR31 ea222 (st_wed (by omega) (by omega))
                        refine w_goto rfl ?_
                        exact loop191 _ 1 a222 rfl ha222 (FR.up (hF31) (by decide) ea222) (fun (m9 : Nat) (l9 : m9 < 21) (h7 : ACm m9 a) => ACm.put ((hC31) m9 l9 h7) ea222 (by omega)) (by rw [ea222, mU_slot (by omega)]; omega) ((ACm.put (m := 21) (hD31) ea222 (by omega)))
                      · skip
                        refine w_iload rfl rfl ?_
                        refine w_if_eq rfl (fun c223 => ?_) (fun c223 => ?_)
                        · skip
                          exact loop191 _ 1 a31 rfl hR31 (hF31) (hC31) (by omega) ((hD31))
                        · skip
                          refine w_aload rfl rfl ?_
                          refine w_const rfl ?_
                          refine w_invV (rest := []) rfl rfl rfl rfl rfl (Nat.le_of_ble_eq_true rfl) rfl (by omega) (s_passes (K := K) a31 b  1260 hR31 (by omega) ((hD31)) (CDI.fr hC ((hF31) : FR [0, 13, 14, 15, 17] a a31) (by decide) (by decide) (by decide)) (by have z9 : (a31 15 1260).toInt ≤ k.toInt := (by omega); exact ⟨show (a31 15 1260).toInt + 1 ≤ _ by omega, show (a31 15 1260).toInt + 1 ≤ _ by omega⟩)) (fun v224 h9 hq225 => ?_)
                          obtain ⟨a226, rfl, ha226, fa226, rfl⟩ := hq225
                          show f_wp _ (191, [some (.inr (.inr (some 0))), some (.inl w), some (.inl b1), some (.inl b2), some (.inl k), some (.inl x18), some (.inl x21), some (.inl x24), some (.inl 1)], [], mH a226 b) _
                          exact loop191 _ 1 a226 rfl ha226 (FR.tr (hF31) (FR.sub fa226.1 (by decide))) (fun (m9 : Nat) (l9 : m9 < 21) (h7 : ACm m9 a) => fa226.2.1 m9 (by omega) ((hC31) m9 l9 h7)) (by rw [show (a226 15 1260).toInt = _ from fa226.2.2.1, show (1260 : Int32).toInt.toNat = 1260 from rfl]; omega) ((fa226.2.1 21 (by decide) (hD31)))
    exact loop31 _ (-1) (-1) 0 a8 none none none none rfl ha8 (FR.tr (FR.up (FR.rf) (by decide) ea1) (FR.sub fa8.1 (by decide))) (fun (m9 : Nat) (l9 : m9 < 21) (h7 : ACm m9 a) => fa8.2.1 m9 (by omega) ((fun (m9 : Nat) (l9 : m9 < 21) (h7 : ACm m9 a) => ACm.up ((fun (m9 : Nat) (l9 : m9 < 21) (h7 : ACm m9 a) => h7) m9 l9 h7) ea1 (by decide)) m9 l9 h7)) (by omega) (by have m9 : (a8 15 1260).toInt = 0 := fa8.2.2.2.1; omega) ((AC.start (fun r9 h8 => fa8.2.2.2.2 r9 h8)))
