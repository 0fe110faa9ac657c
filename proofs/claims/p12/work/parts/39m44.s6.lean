set_option maxRecDepth 4000 in
theorem s_watersAt_n {K : Nat} (a : Nat → Nat → Int32) (b : Nat → Nat → Int64) (q : Int32) (hR : RM K a) (hb : 0 ≤ q.toInt ∧ q.toInt ≤ 1260 ∧ q.toInt % 60 = 0) (g : Nat → Nat) (gm : ∀ w, w < 6 → 0 ≤ (a 15 (q.toInt.toNat + 1 + w)).toInt → g w < g (a 15 (q.toInt.toNat + 1 + w)).toInt.toNat) : ∀ (n : Nat) (r e : Int32), 0 ≤ r.toInt ∧ r.toInt < 6 → g r.toInt.toNat = n → f_call mtM (n + 3) 53 [.inr (.inr (some 0)), .inl q, .inl r, .inl e] (mH a b) (fun v9 h' => h' = mH a b ∧ ∃ x : Int32, v9 = some (.inl x) ∧ True) := by
  intro n
  induction n using Nat.strongRecOn with
  | _ n ih =>
  intro r e hr hn
  refine f_call_of (d0 := n + 2) rfl (Nat.le_of_ble_eq_true rfl) (fun d hd => ?_)
  show f_wp _ (0, [some (.inr (.inr (some 0))), some (.inl q), some (.inl r), some (.inl e), none, none, none], [], mH a b) _
  have l0 : (0 : Int32).toInt = 0 := rfl
  have l1 : (1 : Int32).toInt = 1 := rfl
  have l2 : (2 : Int32).toInt = 2 := rfl
  refine w_const rfl ?_
  refine w_iload rfl rfl ?_
  refine w_iiE rfl (fun x1 tx1 => ?_)
  refine w_istore (lo' := [some (.inr (.inr (some 0))), some (.inl q), some (.inl r), some (.inl e), some (.inl x1), none, none]) rfl rfl ?_
  refine w_const rfl ?_
  refine w_istore (lo' := [some (.inr (.inr (some 0))), some (.inl q), some (.inl r), some (.inl e), some (.inl x1), some (.inl 0), none]) rfl rfl ?_
  have loop8 : ∀ (ms9 : Nat) (set : Int32) (w : Int32) (o6_8 : Option f_V), (6 - w.toInt).toNat = ms9 → (0 ≤ w.toInt ∧ w.toInt ≤ 6) → f_wp (f_code (t_X13_watersAt (f_ev mtM d))) (8, [some (.inr (.inr (some 0))), some (.inl q), some (.inl r), some (.inl e), some (.inl set), some (.inl w), o6_8], [], mH a b) (fun v9 h' => h' = mH a b ∧ ∃ x : Int32, v9 = some (.inl x) ∧ True) := by
    intro ms9
    induction ms9 using Nat.strongRecOn with
    | _ ms8 ih8 =>
      intro set w o6_8 hm8 hw
      refine w_iload rfl rfl ?_
      refine w_aload rfl rfl ?_
      refine w_invV (rest := [.inl w]) rfl rfl rfl rfl rfl (Nat.le_of_ble_eq_true rfl) rfl (by omega) (s_rivers (K := K) a b   hR ) (fun v2 h9 hq3 => ?_)
      obtain ⟨rfl, x4, rfl, px4⟩ := hq3
      show f_wp _ (14, [some (.inr (.inr (some 0))), some (.inl q), some (.inl r), some (.inl e), some (.inl set), some (.inl w), o6_8], [.inl x4, .inl w], mH a b) _
      refine w_ic_ge rfl (fun c5 => ?_) (fun c5 => ?_)
      · skip
        refine w_iload rfl rfl ?_
        exact wp_iret (z := false) rfl (fun h9 => by cases h9) ⟨rfl, ⟨_, rfl, trivial⟩⟩
      · skip
        refine w_aload rfl rfl ?_
        refine w_iload rfl rfl ?_
        refine w_iload rfl rfl ?_
        refine w_invV (rest := []) rfl rfl rfl rfl rfl (Nat.le_of_ble_eq_true rfl) rfl (by omega) (s_husbandOf (K := K) a b  q w hR (by omega) (by omega)) (fun v6 h9 hq7 => ?_)
        obtain ⟨rfl, x8, rfl, px8⟩ := hq7
        show f_wp _ (24, [some (.inr (.inr (some 0))), some (.inl q), some (.inl r), some (.inl e), some (.inl set), some (.inl w), o6_8], [.inl x8], mH a b) _
        have e8 : (a 15 (q.toInt.toNat + 1 + w.toInt.toNat)).toInt = x8.toInt := by rw [px8.1]
        refine w_iload rfl rfl ?_
        refine w_ic_ne rfl (fun c9 => ?_) (fun c9 => ?_)
        · skip
          refine w_aload rfl rfl ?_
          refine w_iload rfl rfl ?_
          refine w_invV (rest := []) rfl rfl rfl rfl rfl (Nat.le_of_ble_eq_true rfl) rfl (by omega) (s_mouthOf (K := K) a b  w hR (by omega)) (fun v10 h9 hq11 => ?_)
          obtain ⟨rfl, x12, rfl, px12⟩ := hq11
          show f_wp _ (34, [some (.inr (.inr (some 0))), some (.inl q), some (.inl r), some (.inl e), some (.inl set), some (.inl w), o6_8], [.inl x12], mH a b) _
          refine w_iload rfl rfl ?_
          refine w_ic_lt rfl (fun c13 => ?_) (fun c13 => ?_)
          · skip
            refine w_const rfl ?_
            refine w_istore (lo' := [some (.inr (.inr (some 0))), some (.inl q), some (.inl r), some (.inl e), some (.inl set), some (.inl w), some (.inl 0)]) rfl rfl ?_
            refine w_iload rfl rfl ?_
            refine w_iload rfl rfl ?_
            refine w_if_eq rfl (fun c14 => ?_) (fun c14 => ?_)
            · skip
              refine w_const rfl ?_
              refine w_iiE rfl (fun x15 tx15 => ?_)
              refine w_istore (lo' := [some (.inr (.inr (some 0))), some (.inl q), some (.inl r), some (.inl e), some (.inl x15), some (.inl w), some (.inl 0)]) rfl rfl ?_
              refine w_iinc (lo' := fun z9 => [some (.inr (.inr (some 0))), some (.inl q), some (.inl r), some (.inl e), some (.inl x15), some (.inl z9), some (.inl 0)]) rfl rfl (fun _ => rfl) (by omega) (fun x16 tx16 => ?_)
              refine w_goto rfl ?_
              exact ih8 (6 - x16.toInt).toNat (by omega) x15 x16 (some (.inl 0)) rfl  (by omega)
            · skip
              refine w_aload rfl rfl ?_
              refine w_iload rfl rfl ?_
              refine w_iload rfl rfl ?_
              refine w_aload rfl rfl ?_
              refine w_iload rfl rfl ?_
              refine w_invV (rest := [.inl w, .inl q, .inr (.inr (some 0)), .inl set]) rfl rfl rfl rfl rfl (Nat.le_of_ble_eq_true rfl) rfl (by omega) (s_mouthOf (K := K) a b  w hR (by omega)) (fun v17 h9 hq18 => ?_)
              obtain ⟨rfl, x19, rfl, px19⟩ := hq18
              show f_wp _ (80, [some (.inr (.inr (some 0))), some (.inl q), some (.inl r), some (.inl e), some (.inl set), some (.inl w), some (.inl 0)], [.inl x19, .inl w, .inl q, .inr (.inr (some 0)), .inl set], mH a b) _
              have e10 : (a 15 (q.toInt.toNat + 1 + w.toInt.toNat)).toInt = r.toInt := by omega
              have h5 := gm w.toInt.toNat (by omega) (by omega)
              rw [e10, hn] at h5
              refine w_invV (rest := [.inl set]) rfl rfl rfl rfl rfl (Nat.le_of_ble_eq_true rfl) rfl (by omega) (ih (g w.toInt.toNat) h5 w x19 (by omega) rfl) (fun v20 h9 hq21 => ?_)
              obtain ⟨rfl, x22, rfl, px22⟩ := hq21
              show f_wp _ (83, [some (.inr (.inr (some 0))), some (.inl q), some (.inl r), some (.inl e), some (.inl set), some (.inl w), some (.inl 0)], [.inl x22, .inl set], mH a b) _
              refine w_goto rfl ?_
              refine w_iiE rfl (fun x23 tx23 => ?_)
              refine w_istore (lo' := [some (.inr (.inr (some 0))), some (.inl q), some (.inl r), some (.inl e), some (.inl x23), some (.inl w), some (.inl 0)]) rfl rfl ?_
              refine w_iinc (lo' := fun z9 => [some (.inr (.inr (some 0))), some (.inl q), some (.inl r), some (.inl e), some (.inl x23), some (.inl z9), some (.inl 0)]) rfl rfl (fun _ => rfl) (by omega) (fun x24 tx24 => ?_)
              refine w_goto rfl ?_
              exact ih8 (6 - x24.toInt).toNat (by omega) x23 x24 (some (.inl 0)) rfl  (by omega)
          · skip
            refine w_aload rfl rfl ?_
            refine w_iload rfl rfl ?_
            refine w_invV (rest := []) rfl rfl rfl rfl rfl (Nat.le_of_ble_eq_true rfl) rfl (by omega) (s_kindOf (K := K) a b  r hR (by omega)) (fun v25 h9 hq26 => ?_)
            obtain ⟨rfl, x27, rfl, px27⟩ := hq26
            show f_wp _ (43, [some (.inr (.inr (some 0))), some (.inl q), some (.inl r), some (.inl e), some (.inl set), some (.inl w), o6_8], [.inl x27], mH a b) _
            refine w_const rfl ?_
            refine w_ic_ne rfl (fun c28 => ?_) (fun c28 => ?_)
            · skip
              refine w_iload rfl rfl ?_
              refine w_aload rfl rfl ?_
              refine w_iload rfl rfl ?_
              refine w_invV (rest := [.inl e]) rfl rfl rfl rfl rfl (Nat.le_of_ble_eq_true rfl) rfl (by omega) (s_mouthOf (K := K) a b  r hR (by omega)) (fun v29 h9 hq30 => ?_)
              obtain ⟨rfl, x31, rfl, px31⟩ := hq30
              show f_wp _ (53, [some (.inr (.inr (some 0))), some (.inl q), some (.inl r), some (.inl e), some (.inl set), some (.inl w), o6_8], [.inl x31, .inl e], mH a b) _
              refine w_ic_ne rfl (fun c32 => ?_) (fun c32 => ?_)
              · skip
                refine w_const rfl ?_
                refine w_goto rfl ?_
                refine w_istore (lo' := [some (.inr (.inr (some 0))), some (.inl q), some (.inl r), some (.inl e), some (.inl set), some (.inl w), some (.inl 1)]) rfl rfl ?_
                refine w_iload rfl rfl ?_
                refine w_iload rfl rfl ?_
                refine w_if_eq rfl (fun c33 => ?_) (fun c33 => ?_)
                · skip
                  refine w_const rfl ?_
                  refine w_iiE rfl (fun x34 tx34 => ?_)
                  refine w_istore (lo' := [some (.inr (.inr (some 0))), some (.inl q), some (.inl r), some (.inl e), some (.inl x34), some (.inl w), some (.inl 1)]) rfl rfl ?_
                  refine w_iinc (lo' := fun z9 => [some (.inr (.inr (some 0))), some (.inl q), some (.inl r), some (.inl e), some (.inl x34), some (.inl z9), some (.inl 1)]) rfl rfl (fun _ => rfl) (by omega) (fun x35 tx35 => ?_)
                  refine w_goto rfl ?_
                  exact ih8 (6 - x35.toInt).toNat (by omega) x34 x35 (some (.inl 1)) rfl  (by omega)
                · skip
                  refine w_aload rfl rfl ?_
                  refine w_iload rfl rfl ?_
                  refine w_iload rfl rfl ?_
                  refine w_aload rfl rfl ?_
                  refine w_iload rfl rfl ?_
                  refine w_invV (rest := [.inl w, .inl q, .inr (.inr (some 0)), .inl set]) rfl rfl rfl rfl rfl (Nat.le_of_ble_eq_true rfl) rfl (by omega) (s_mouthOf (K := K) a b  w hR (by omega)) (fun v36 h9 hq37 => ?_)
                  obtain ⟨rfl, x38, rfl, px38⟩ := hq37
                  show f_wp _ (80, [some (.inr (.inr (some 0))), some (.inl q), some (.inl r), some (.inl e), some (.inl set), some (.inl w), some (.inl 1)], [.inl x38, .inl w, .inl q, .inr (.inr (some 0)), .inl set], mH a b) _
                  have e10 : (a 15 (q.toInt.toNat + 1 + w.toInt.toNat)).toInt = r.toInt := by omega
                  have h5 := gm w.toInt.toNat (by omega) (by omega)
                  rw [e10, hn] at h5
                  refine w_invV (rest := [.inl set]) rfl rfl rfl rfl rfl (Nat.le_of_ble_eq_true rfl) rfl (by omega) (ih (g w.toInt.toNat) h5 w x38 (by omega) rfl) (fun v39 h9 hq40 => ?_)
                  obtain ⟨rfl, x41, rfl, px41⟩ := hq40
                  show f_wp _ (83, [some (.inr (.inr (some 0))), some (.inl q), some (.inl r), some (.inl e), some (.inl set), some (.inl w), some (.inl 1)], [.inl x41, .inl set], mH a b) _
                  refine w_goto rfl ?_
                  refine w_iiE rfl (fun x42 tx42 => ?_)
                  refine w_istore (lo' := [some (.inr (.inr (some 0))), some (.inl q), some (.inl r), some (.inl e), some (.inl x42), some (.inl w), some (.inl 1)]) rfl rfl ?_
                  refine w_iinc (lo' := fun z9 => [some (.inr (.inr (some 0))), some (.inl q), some (.inl r), some (.inl e), some (.inl x42), some (.inl z9), some (.inl 1)]) rfl rfl (fun _ => rfl) (by omega) (fun x43 tx43 => ?_)
                  refine w_goto rfl ?_
                  exact ih8 (6 - x43.toInt).toNat (by omega) x42 x43 (some (.inl 1)) rfl  (by omega)
              · skip
                refine w_const rfl ?_
                refine w_istore (lo' := [some (.inr (.inr (some 0))), some (.inl q), some (.inl r), some (.inl e), some (.inl set), some (.inl w), some (.inl 0)]) rfl rfl ?_
                refine w_iload rfl rfl ?_
                refine w_iload rfl rfl ?_
                refine w_if_eq rfl (fun c44 => ?_) (fun c44 => ?_)
                · skip
                  refine w_const rfl ?_
                  refine w_iiE rfl (fun x45 tx45 => ?_)
                  refine w_istore (lo' := [some (.inr (.inr (some 0))), some (.inl q), some (.inl r), some (.inl e), some (.inl x45), some (.inl w), some (.inl 0)]) rfl rfl ?_
                  refine w_iinc (lo' := fun z9 => [some (.inr (.inr (some 0))), some (.inl q), some (.inl r), some (.inl e), some (.inl x45), some (.inl z9), some (.inl 0)]) rfl rfl (fun _ => rfl) (by omega) (fun x46 tx46 => ?_)
                  refine w_goto rfl ?_
                  exact ih8 (6 - x46.toInt).toNat (by omega) x45 x46 (some (.inl 0)) rfl  (by omega)
                · skip
                  refine w_aload rfl rfl ?_
                  refine w_iload rfl rfl ?_
                  refine w_iload rfl rfl ?_
                  refine w_aload rfl rfl ?_
                  refine w_iload rfl rfl ?_
                  refine w_invV (rest := [.inl w, .inl q, .inr (.inr (some 0)), .inl set]) rfl rfl rfl rfl rfl (Nat.le_of_ble_eq_true rfl) rfl (by omega) (s_mouthOf (K := K) a b  w hR (by omega)) (fun v47 h9 hq48 => ?_)
                  obtain ⟨rfl, x49, rfl, px49⟩ := hq48
                  show f_wp _ (80, [some (.inr (.inr (some 0))), some (.inl q), some (.inl r), some (.inl e), some (.inl set), some (.inl w), some (.inl 0)], [.inl x49, .inl w, .inl q, .inr (.inr (some 0)), .inl set], mH a b) _
                  have e10 : (a 15 (q.toInt.toNat + 1 + w.toInt.toNat)).toInt = r.toInt := by omega
                  have h5 := gm w.toInt.toNat (by omega) (by omega)
                  rw [e10, hn] at h5
                  refine w_invV (rest := [.inl set]) rfl rfl rfl rfl rfl (Nat.le_of_ble_eq_true rfl) rfl (by omega) (ih (g w.toInt.toNat) h5 w x49 (by omega) rfl) (fun v50 h9 hq51 => ?_)
                  obtain ⟨rfl, x52, rfl, px52⟩ := hq51
                  show f_wp _ (83, [some (.inr (.inr (some 0))), some (.inl q), some (.inl r), some (.inl e), some (.inl set), some (.inl w), some (.inl 0)], [.inl x52, .inl set], mH a b) _
                  refine w_goto rfl ?_
                  refine w_iiE rfl (fun x53 tx53 => ?_)
                  refine w_istore (lo' := [some (.inr (.inr (some 0))), some (.inl q), some (.inl r), some (.inl e), some (.inl x53), some (.inl w), some (.inl 0)]) rfl rfl ?_
                  refine w_iinc (lo' := fun z9 => [some (.inr (.inr (some 0))), some (.inl q), some (.inl r), some (.inl e), some (.inl x53), some (.inl z9), some (.inl 0)]) rfl rfl (fun _ => rfl) (by omega) (fun x54 tx54 => ?_)
                  refine w_goto rfl ?_
                  exact ih8 (6 - x54.toInt).toNat (by omega) x53 x54 (some (.inl 0)) rfl  (by omega)
            · skip
              refine w_const rfl ?_
              refine w_goto rfl ?_
              refine w_istore (lo' := [some (.inr (.inr (some 0))), some (.inl q), some (.inl r), some (.inl e), some (.inl set), some (.inl w), some (.inl 1)]) rfl rfl ?_
              refine w_iload rfl rfl ?_
              refine w_iload rfl rfl ?_
              refine w_if_eq rfl (fun c55 => ?_) (fun c55 => ?_)
              · skip
                refine w_const rfl ?_
                refine w_iiE rfl (fun x56 tx56 => ?_)
                refine w_istore (lo' := [some (.inr (.inr (some 0))), some (.inl q), some (.inl r), some (.inl e), some (.inl x56), some (.inl w), some (.inl 1)]) rfl rfl ?_
                refine w_iinc (lo' := fun z9 => [some (.inr (.inr (some 0))), some (.inl q), some (.inl r), some (.inl e), some (.inl x56), some (.inl z9), some (.inl 1)]) rfl rfl (fun _ => rfl) (by omega) (fun x57 tx57 => ?_)
                refine w_goto rfl ?_
                exact ih8 (6 - x57.toInt).toNat (by omega) x56 x57 (some (.inl 1)) rfl  (by omega)
              · skip
                refine w_aload rfl rfl ?_
                refine w_iload rfl rfl ?_
                refine w_iload rfl rfl ?_
                refine w_aload rfl rfl ?_
                refine w_iload rfl rfl ?_
                refine w_invV (rest := [.inl w, .inl q, .inr (.inr (some 0)), .inl set]) rfl rfl rfl rfl rfl (Nat.le_of_ble_eq_true rfl) rfl (by omega) (s_mouthOf (K := K) a b  w hR (by omega)) (fun v58 h9 hq59 => ?_)
                obtain ⟨rfl, x60, rfl, px60⟩ := hq59
                show f_wp _ (80, [some (.inr (.inr (some 0))), some (.inl q), some (.inl r), some (.inl e), some (.inl set), some (.inl w), some (.inl 1)], [.inl x60, .inl w, .inl q, .inr (.inr (some 0)), .inl set], mH a b) _
                have e10 : (a 15 (q.toInt.toNat + 1 + w.toInt.toNat)).toInt = r.toInt := by omega
                have h5 := gm w.toInt.toNat (by omega) (by omega)
                rw [e10, hn] at h5
                refine w_invV (rest := [.inl set]) rfl rfl rfl rfl rfl (Nat.le_of_ble_eq_true rfl) rfl (by omega) (ih (g w.toInt.toNat) h5 w x60 (by omega) rfl) (fun v61 h9 hq62 => ?_)
                obtain ⟨rfl, x63, rfl, px63⟩ := hq62
                show f_wp _ (83, [some (.inr (.inr (some 0))), some (.inl q), some (.inl r), some (.inl e), some (.inl set), some (.inl w), some (.inl 1)], [.inl x63, .inl set], mH a b) _
                refine w_goto rfl ?_
                refine w_iiE rfl (fun x64 tx64 => ?_)
                refine w_istore (lo' := [some (.inr (.inr (some 0))), some (.inl q), some (.inl r), some (.inl e), some (.inl x64), some (.inl w), some (.inl 1)]) rfl rfl ?_
                refine w_iinc (lo' := fun z9 => [some (.inr (.inr (some 0))), some (.inl q), some (.inl r), some (.inl e), some (.inl x64), some (.inl z9), some (.inl 1)]) rfl rfl (fun _ => rfl) (by omega) (fun x65 tx65 => ?_)
                refine w_goto rfl ?_
                exact ih8 (6 - x65.toInt).toNat (by omega) x64 x65 (some (.inl 1)) rfl  (by omega)
        · skip
          refine w_const rfl ?_
          refine w_istore (lo' := [some (.inr (.inr (some 0))), some (.inl q), some (.inl r), some (.inl e), some (.inl set), some (.inl w), some (.inl 0)]) rfl rfl ?_
          refine w_iload rfl rfl ?_
          refine w_iload rfl rfl ?_
          refine w_if_eq rfl (fun c66 => ?_) (fun c66 => ?_)
          · skip
            refine w_const rfl ?_
            refine w_iiE rfl (fun x67 tx67 => ?_)
            refine w_istore (lo' := [some (.inr (.inr (some 0))), some (.inl q), some (.inl r), some (.inl e), some (.inl x67), some (.inl w), some (.inl 0)]) rfl rfl ?_
            refine w_iinc (lo' := fun z9 => [some (.inr (.inr (some 0))), some (.inl q), some (.inl r), some (.inl e), some (.inl x67), some (.inl z9), some (.inl 0)]) rfl rfl (fun _ => rfl) (by omega) (fun x68 tx68 => ?_)
            refine w_goto rfl ?_
            exact ih8 (6 - x68.toInt).toNat (by omega) x67 x68 (some (.inl 0)) rfl  (by omega)
          · skip
            refine w_aload rfl rfl ?_
            refine w_iload rfl rfl ?_
            refine w_iload rfl rfl ?_
            refine w_aload rfl rfl ?_
            refine w_iload rfl rfl ?_
            refine w_invV (rest := [.inl w, .inl q, .inr (.inr (some 0)), .inl set]) rfl rfl rfl rfl rfl (Nat.le_of_ble_eq_true rfl) rfl (by omega) (s_mouthOf (K := K) a b  w hR (by omega)) (fun v69 h9 hq70 => ?_)
            obtain ⟨rfl, x71, rfl, px71⟩ := hq70
            show f_wp _ (80, [some (.inr (.inr (some 0))), some (.inl q), some (.inl r), some (.inl e), some (.inl set), some (.inl w), some (.inl 0)], [.inl x71, .inl w, .inl q, .inr (.inr (some 0)), .inl set], mH a b) _
            have e10 : (a 15 (q.toInt.toNat + 1 + w.toInt.toNat)).toInt = r.toInt := by omega
            have h5 := gm w.toInt.toNat (by omega) (by omega)
            rw [e10, hn] at h5
            refine w_invV (rest := [.inl set]) rfl rfl rfl rfl rfl (Nat.le_of_ble_eq_true rfl) rfl (by omega) (ih (g w.toInt.toNat) h5 w x71 (by omega) rfl) (fun v72 h9 hq73 => ?_)
            obtain ⟨rfl, x74, rfl, px74⟩ := hq73
            show f_wp _ (83, [some (.inr (.inr (some 0))), some (.inl q), some (.inl r), some (.inl e), some (.inl set), some (.inl w), some (.inl 0)], [.inl x74, .inl set], mH a b) _
            refine w_goto rfl ?_
            refine w_iiE rfl (fun x75 tx75 => ?_)
            refine w_istore (lo' := [some (.inr (.inr (some 0))), some (.inl q), some (.inl r), some (.inl e), some (.inl x75), some (.inl w), some (.inl 0)]) rfl rfl ?_
            refine w_iinc (lo' := fun z9 => [some (.inr (.inr (some 0))), some (.inl q), some (.inl r), some (.inl e), some (.inl x75), some (.inl z9), some (.inl 0)]) rfl rfl (fun _ => rfl) (by omega) (fun x76 tx76 => ?_)
            refine w_goto rfl ?_
            exact ih8 (6 - x76.toInt).toNat (by omega) x75 x76 (some (.inl 0)) rfl  (by omega)
  exact loop8 _ x1 0 none rfl  (by omega)
theorem s_watersAt {K : Nat} (a : Nat → Nat → Int32) (b : Nat → Nat → Int64) (q r e : Int32) (hR : RM K a) (hb : 0 ≤ q.toInt ∧ q.toInt ≤ 1260 ∧ q.toInt % 60 = 0) (hr : 0 ≤ r.toInt ∧ r.toInt < 6) (hA : AC a q.toInt.toNat) : f_call mtM 9 53 [.inr (.inr (some 0)), .inl q, .inl r, .inl e] (mH a b) (fun v9 h' => h' = mH a b ∧ ∃ x : Int32, v9 = some (.inl x) ∧ True) := by
  obtain ⟨g, g6, gm⟩ := hA
  have h6 := g6 r.toInt.toNat (by omega)
  have h := s_watersAt_n a b q hR hb g gm _ r e hr rfl
  exact fun d hd => h d (by omega)
set_option maxRecDepth 4000 in
theorem s_flowAt {K : Nat} (a : Nat → Nat → Int32) (b : Nat → Nat → Int64) (q : Int32) (r : Int32) (e : Int32) (s : Int32) (hR : RM K a) (hb : 0 ≤ q.toInt ∧ q.toInt ≤ 1260 ∧ q.toInt % 60 = 0) (hr : 0 ≤ r.toInt ∧ r.toInt < 6) (hs : 0 ≤ s.toInt ∧ s.toInt < 4) (hA : AC a q.toInt.toNat) : f_call mtM 10 54 [.inr (.inr (some 0)), .inl q, .inl r, .inl e, .inl s] (mH a b) (fun v9 h' => h' = mH a b ∧ ∃ x : Int32, v9 = some (.inl x) ∧ (0 ≤ x.toInt ∧ x.toInt ≤ 594)) := by
  refine f_call_of (d0 := 9) rfl (Nat.le_of_ble_eq_true rfl) (fun d hd => ?_)
  show f_wp _ (0, [some (.inr (.inr (some 0))), some (.inl q), some (.inl r), some (.inl e), some (.inl s), none, none, none], [], mH a b) _
  have l0 : (0 : Int32).toInt = 0 := rfl
  have l1 : (1 : Int32).toInt = 1 := rfl
  refine w_aload rfl rfl ?_
  refine w_iload rfl rfl ?_
  refine w_iload rfl rfl ?_
  refine w_iload rfl rfl ?_
  refine w_invV (rest := []) rfl rfl rfl rfl rfl (Nat.le_of_ble_eq_true rfl) rfl (by omega) (s_watersAt (K := K) a b  q r e hR (by omega) (by omega) (hA)) (fun v1 h9 hq2 => ?_)
  obtain ⟨rfl, x3, rfl, px3⟩ := hq2
  show f_wp _ (7, [some (.inr (.inr (some 0))), some (.inl q), some (.inl r), some (.inl e), some (.inl s), none, none, none], [.inl x3], mH a b) _
  refine w_istore (lo' := [some (.inr (.inr (some 0))), some (.inl q), some (.inl r), some (.inl e), some (.inl s), some (.inl x3), none, none]) rfl rfl ?_
  refine w_const rfl ?_
  refine w_istore (lo' := [some (.inr (.inr (some 0))), some (.inl q), some (.inl r), some (.inl e), some (.inl s), some (.inl x3), some (.inl 0), none]) rfl rfl ?_
  refine w_const rfl ?_
  refine w_istore (lo' := [some (.inr (.inr (some 0))), some (.inl q), some (.inl r), some (.inl e), some (.inl s), some (.inl x3), some (.inl 0), some (.inl 0)]) rfl rfl ?_
  have loop15 : ∀ (ms9 : Nat) (sum : Int32) (w : Int32) , (6 - w.toInt).toNat = ms9 → (0 ≤ w.toInt ∧ w.toInt ≤ 6) → (0 ≤ sum.toInt ∧ sum.toInt ≤ 99 * w.toInt) → f_wp (f_code (t_X13_flowAt (f_ev mtM d))) (15, [some (.inr (.inr (some 0))), some (.inl q), some (.inl r), some (.inl e), some (.inl s), some (.inl x3), some (.inl sum), some (.inl w)], [], mH a b) (fun v9 h' => h' = mH a b ∧ ∃ x : Int32, v9 = some (.inl x) ∧ (0 ≤ x.toInt ∧ x.toInt ≤ 594)) := by
    intro ms9
    induction ms9 using Nat.strongRecOn with
    | _ ms15 ih15 =>
      intro sum w  hm15 hw hsum
      refine w_iload rfl rfl ?_
      refine w_aload rfl rfl ?_
      refine w_invV (rest := [.inl w]) rfl rfl rfl rfl rfl (Nat.le_of_ble_eq_true rfl) rfl (by omega) (s_rivers (K := K) a b   hR ) (fun v4 h9 hq5 => ?_)
      obtain ⟨rfl, x6, rfl, px6⟩ := hq5
      show f_wp _ (21, [some (.inr (.inr (some 0))), some (.inl q), some (.inl r), some (.inl e), some (.inl s), some (.inl x3), some (.inl sum), some (.inl w)], [.inl x6, .inl w], mH a b) _
      refine w_ic_ge rfl (fun c7 => ?_) (fun c7 => ?_)
      · skip
        refine w_iload rfl rfl ?_
        exact wp_iret (z := false) rfl (fun h9 => by cases h9) ⟨rfl, ⟨_, rfl, by omega⟩⟩
      · skip
        refine w_iload rfl rfl ?_
        refine w_iload rfl rfl ?_
        refine w_iload rfl rfl ?_
        refine w_iiE rfl (fun x8 tx8 => ?_)
        refine w_const rfl ?_
        refine w_iiE rfl (fun x9 tx9 => ?_)
        refine w_const rfl ?_
        refine w_ic_ne rfl (fun c10 => ?_) (fun c10 => ?_)
        · skip
          refine w_aload rfl rfl ?_
          refine w_iload rfl rfl ?_
          refine w_iload rfl rfl ?_
          refine w_invV (rest := [.inl sum]) rfl rfl rfl rfl rfl (Nat.le_of_ble_eq_true rfl) rfl (by omega) (s_ownOf (K := K) a b  w s hR (by omega) (by omega)) (fun v11 h9 hq12 => ?_)
          obtain ⟨rfl, x13, rfl, px13⟩ := hq12
          show f_wp _ (45, [some (.inr (.inr (some 0))), some (.inl q), some (.inl r), some (.inl e), some (.inl s), some (.inl x3), some (.inl sum), some (.inl w)], [.inl x13, .inl sum], mH a b) _
          refine w_goto rfl ?_
          first | refine w_iadd rfl (by omega) (fun x14 tx14 => ?_) | refine w_iiU rfl (fun x14 tx14 => ?_)
          refine w_istore (lo' := [some (.inr (.inr (some 0))), some (.inl q), some (.inl r), some (.inl e), some (.inl s), some (.inl x3), some (.inl x14), some (.inl w)]) rfl rfl ?_
          refine w_iinc (lo' := fun z9 => [some (.inr (.inr (some 0))), some (.inl q), some (.inl r), some (.inl e), some (.inl s), some (.inl x3), some (.inl x14), some (.inl z9)]) rfl rfl (fun _ => rfl) (by omega) (fun x15 tx15 => ?_)
          refine w_goto rfl ?_
          exact ih15 (6 - x15.toInt).toNat (by omega) x14 x15 rfl  (by omega) (by omega)
        · skip
          refine w_const rfl ?_
          first | refine w_iadd rfl (by omega) (fun x16 tx16 => ?_) | refine w_iiU rfl (fun x16 tx16 => ?_)
          refine w_istore (lo' := [some (.inr (.inr (some 0))), some (.inl q), some (.inl r), some (.inl e), some (.inl s), some (.inl x3), some (.inl x16), some (.inl w)]) rfl rfl ?_
          refine w_iinc (lo' := fun z9 => [some (.inr (.inr (some 0))), some (.inl q), some (.inl r), some (.inl e), some (.inl s), some (.inl x3), some (.inl x16), some (.inl z9)]) rfl rfl (fun _ => rfl) (by omega) (fun x17 tx17 => ?_)
          refine w_goto rfl ?_
          exact ih15 (6 - x17.toInt).toNat (by omega) x16 x17 rfl  (by omega) (by omega)
  exact loop15 _ 0 0 rfl  (by omega) (by omega)
set_option maxRecDepth 4000 in
theorem s_mouthFlow {K : Nat} (a : Nat → Nat → Int32) (b : Nat → Nat → Int64) (q : Int32) (r : Int32) (s : Int32) (hR : RM K a) (hb : 0 ≤ q.toInt ∧ q.toInt ≤ 1260 ∧ q.toInt % 60 = 0) (hr : 0 ≤ r.toInt ∧ r.toInt < 6) (hs : 0 ≤ s.toInt ∧ s.toInt < 4) (hA : AC a q.toInt.toNat) : f_call mtM 11 55 [.inr (.inr (some 0)), .inl q, .inl r, .inl s] (mH a b) (fun v9 h' => h' = mH a b ∧ ∃ x : Int32, v9 = some (.inl x) ∧ (0 ≤ x.toInt ∧ x.toInt ≤ 594)) := by
  refine f_call_of (d0 := 10) rfl (Nat.le_of_ble_eq_true rfl) (fun d hd => ?_)
  show f_wp _ (0, [some (.inr (.inr (some 0))), some (.inl q), some (.inl r), some (.inl s)], [], mH a b) _
  refine w_aload rfl rfl ?_
  refine w_iload rfl rfl ?_
  refine w_iload rfl rfl ?_
  refine w_aload rfl rfl ?_
  refine w_iload rfl rfl ?_
  refine w_invV (rest := [.inl r, .inl q, .inr (.inr (some 0))]) rfl rfl rfl rfl rfl (Nat.le_of_ble_eq_true rfl) rfl (by omega) (s_mouthOf (K := K) a b  r hR (by omega)) (fun v1 h9 hq2 => ?_)
  obtain ⟨rfl, x3, rfl, px3⟩ := hq2
  show f_wp _ (8, [some (.inr (.inr (some 0))), some (.inl q), some (.inl r), some (.inl s)], [.inl x3, .inl r, .inl q, .inr (.inr (some 0))], mH a b) _
  refine w_iload rfl rfl ?_
  refine w_invV (rest := []) rfl rfl rfl rfl rfl (Nat.le_of_ble_eq_true rfl) rfl (by omega) (s_flowAt (K := K) a b  q r x3 s hR (by omega) (by omega) (by omega) (hA)) (fun v4 h9 hq5 => ?_)
  obtain ⟨rfl, x6, rfl, px6⟩ := hq5
  show f_wp _ (12, [some (.inr (.inr (some 0))), some (.inl q), some (.inl r), some (.inl s)], [.inl x6], mH a b) _
  exact wp_iret (z := false) rfl (fun h9 => by cases h9) ⟨rfl, ⟨_, rfl, by omega⟩⟩
set_option maxRecDepth 4000 in
theorem s_isDry {K : Nat} (a : Nat → Nat → Int32) (b : Nat → Nat → Int64) (q : Int32) (r : Int32) (s : Int32) (hR : RM K a) (hb : 0 ≤ q.toInt ∧ q.toInt ≤ 1260 ∧ q.toInt % 60 = 0) (hr : 0 ≤ r.toInt ∧ r.toInt < 6) (hs : 0 ≤ s.toInt ∧ s.toInt < 4) (hA : AC a q.toInt.toNat) : f_call mtM 11 56 [.inr (.inr (some 0)), .inl q, .inl r, .inl s] (mH a b) (fun v9 h' => h' = mH a b ∧ ∃ x : Int32, v9 = some (.inl x) ∧ (x.toInt = 0 ∨ x.toInt = 1)) := by
  refine f_call_of (d0 := 10) rfl (Nat.le_of_ble_eq_true rfl) (fun d hd => ?_)
  show f_wp _ (0, [some (.inr (.inr (some 0))), some (.inl q), some (.inl r), some (.inl s)], [], mH a b) _
  have l0 : (0 : Int32).toInt = 0 := rfl
  have l1 : (1 : Int32).toInt = 1 := rfl
  have l8 : (8 : Int32).toInt = 8 := rfl
  have l9 : (9 : Int32).toInt = 9 := rfl
  refine w_aload rfl rfl ?_
  refine w_iload rfl rfl ?_
  refine w_const rfl ?_
  refine w_invV (rest := []) rfl rfl rfl rfl rfl (Nat.le_of_ble_eq_true rfl) rfl (by omega) (s_riverOf (K := K) a b  r 8  (by omega) (by omega)) (fun v1 h9 hq2 => ?_)
  obtain ⟨rfl, x3, rfl, px3⟩ := hq2
  show f_wp _ (7, [some (.inr (.inr (some 0))), some (.inl q), some (.inl r), some (.inl s)], [.inl x3], mH a b) _
  refine w_if_lt rfl (fun c4 => ?_) (fun c4 => ?_)
  · skip
    refine w_const rfl ?_
    exact wp_iret (z := true) rfl (fun _ => by first | exact Or.inl rfl | exact Or.inr rfl | (rcases (by omega : (0 : Int32).toInt = 0 ∨ (0 : Int32).toInt = 1) with h8 | h8; exact Or.inl (ti_eq h8); exact Or.inr (ti_eq h8))) ⟨rfl, ⟨_, rfl, by omega⟩⟩
  · skip
    refine w_aload rfl rfl ?_
    refine w_iload rfl rfl ?_
    refine w_const rfl ?_
    refine w_invV (rest := []) rfl rfl rfl rfl rfl (Nat.le_of_ble_eq_true rfl) rfl (by omega) (s_riverOf (K := K) a b  r 8  (by omega) (by omega)) (fun v5 h9 hq6 => ?_)
    obtain ⟨rfl, x7, rfl, px7⟩ := hq6
    show f_wp _ (17, [some (.inr (.inr (some 0))), some (.inl q), some (.inl r), some (.inl s)], [.inl x7], mH a b) _
    refine w_aload rfl rfl ?_
    refine w_iload rfl rfl ?_
    refine w_iload rfl rfl ?_
    refine w_aload rfl rfl ?_
    refine w_iload rfl rfl ?_
    refine w_const rfl ?_
    refine w_invV (rest := [.inl r, .inl q, .inr (.inr (some 0)), .inl x7]) rfl rfl rfl rfl rfl (Nat.le_of_ble_eq_true rfl) rfl (by omega) (s_riverOf (K := K) a b  r 9  (by omega) (by omega)) (fun v8 h9 hq9 => ?_)
    obtain ⟨rfl, x10, rfl, px10⟩ := hq9
    show f_wp _ (27, [some (.inr (.inr (some 0))), some (.inl q), some (.inl r), some (.inl s)], [.inl x10, .inl r, .inl q, .inr (.inr (some 0)), .inl x7], mH a b) _
    refine w_iload rfl rfl ?_
    refine w_invV (rest := [.inl x7]) rfl rfl rfl rfl rfl (Nat.le_of_ble_eq_true rfl) rfl (by omega) (s_flowAt (K := K) a b  q r x10 s hR (by omega) (by omega) (by omega) (hA)) (fun v11 h9 hq12 => ?_)
    obtain ⟨rfl, x13, rfl, px13⟩ := hq12
    show f_wp _ (31, [some (.inr (.inr (some 0))), some (.inl q), some (.inl r), some (.inl s)], [.inl x13, .inl x7], mH a b) _
    refine w_ic_le rfl (fun c14 => ?_) (fun c14 => ?_)
    · skip
      refine w_const rfl ?_
      exact wp_iret (z := true) rfl (fun _ => by first | exact Or.inl rfl | exact Or.inr rfl | (rcases (by omega : (0 : Int32).toInt = 0 ∨ (0 : Int32).toInt = 1) with h8 | h8; exact Or.inl (ti_eq h8); exact Or.inr (ti_eq h8))) ⟨rfl, ⟨_, rfl, by omega⟩⟩
    · skip
      refine w_const rfl ?_
      refine w_goto rfl ?_
      exact wp_iret (z := true) rfl (fun _ => by first | exact Or.inl rfl | exact Or.inr rfl | (rcases (by omega : (1 : Int32).toInt = 0 ∨ (1 : Int32).toInt = 1) with h8 | h8; exact Or.inl (ti_eq h8); exact Or.inr (ti_eq h8))) ⟨rfl, ⟨_, rfl, by omega⟩⟩
set_option maxRecDepth 4000 in
theorem s_isFlooded {K : Nat} (a : Nat → Nat → Int32) (b : Nat → Nat → Int64) (q : Int32) (r : Int32) (s : Int32) (hR : RM K a) (hb : 0 ≤ q.toInt ∧ q.toInt ≤ 1260 ∧ q.toInt % 60 = 0) (hr : 0 ≤ r.toInt ∧ r.toInt < 6) (hs : 0 ≤ s.toInt ∧ s.toInt < 4) (hA : AC a q.toInt.toNat) : f_call mtM 11 57 [.inr (.inr (some 0)), .inl q, .inl r, .inl s] (mH a b) (fun v9 h' => h' = mH a b ∧ ∃ x : Int32, v9 = some (.inl x) ∧ (x.toInt = 0 ∨ x.toInt = 1)) := by
  refine f_call_of (d0 := 10) rfl (Nat.le_of_ble_eq_true rfl) (fun d hd => ?_)
  show f_wp _ (0, [some (.inr (.inr (some 0))), some (.inl q), some (.inl r), some (.inl s)], [], mH a b) _
  have l0 : (0 : Int32).toInt = 0 := rfl
  have l1 : (1 : Int32).toInt = 1 := rfl
  have l10 : (10 : Int32).toInt = 10 := rfl
  have l11 : (11 : Int32).toInt = 11 := rfl
  refine w_aload rfl rfl ?_
  refine w_iload rfl rfl ?_
  refine w_const rfl ?_
  refine w_invV (rest := []) rfl rfl rfl rfl rfl (Nat.le_of_ble_eq_true rfl) rfl (by omega) (s_riverOf (K := K) a b  r 10  (by omega) (by omega)) (fun v1 h9 hq2 => ?_)
  obtain ⟨rfl, x3, rfl, px3⟩ := hq2
  show f_wp _ (7, [some (.inr (.inr (some 0))), some (.inl q), some (.inl r), some (.inl s)], [.inl x3], mH a b) _
  refine w_if_lt rfl (fun c4 => ?_) (fun c4 => ?_)
  · skip
    refine w_const rfl ?_
    exact wp_iret (z := true) rfl (fun _ => by first | exact Or.inl rfl | exact Or.inr rfl | (rcases (by omega : (0 : Int32).toInt = 0 ∨ (0 : Int32).toInt = 1) with h8 | h8; exact Or.inl (ti_eq h8); exact Or.inr (ti_eq h8))) ⟨rfl, ⟨_, rfl, by omega⟩⟩
  · skip
    refine w_aload rfl rfl ?_
    refine w_iload rfl rfl ?_
    refine w_const rfl ?_
    refine w_invV (rest := []) rfl rfl rfl rfl rfl (Nat.le_of_ble_eq_true rfl) rfl (by omega) (s_riverOf (K := K) a b  r 10  (by omega) (by omega)) (fun v5 h9 hq6 => ?_)
    obtain ⟨rfl, x7, rfl, px7⟩ := hq6
    show f_wp _ (17, [some (.inr (.inr (some 0))), some (.inl q), some (.inl r), some (.inl s)], [.inl x7], mH a b) _
    refine w_aload rfl rfl ?_
    refine w_iload rfl rfl ?_
    refine w_iload rfl rfl ?_
    refine w_aload rfl rfl ?_
    refine w_iload rfl rfl ?_
    refine w_const rfl ?_
    refine w_invV (rest := [.inl r, .inl q, .inr (.inr (some 0)), .inl x7]) rfl rfl rfl rfl rfl (Nat.le_of_ble_eq_true rfl) rfl (by omega) (s_riverOf (K := K) a b  r 11  (by omega) (by omega)) (fun v8 h9 hq9 => ?_)
    obtain ⟨rfl, x10, rfl, px10⟩ := hq9
    show f_wp _ (27, [some (.inr (.inr (some 0))), some (.inl q), some (.inl r), some (.inl s)], [.inl x10, .inl r, .inl q, .inr (.inr (some 0)), .inl x7], mH a b) _
    refine w_iload rfl rfl ?_
    refine w_invV (rest := [.inl x7]) rfl rfl rfl rfl rfl (Nat.le_of_ble_eq_true rfl) rfl (by omega) (s_flowAt (K := K) a b  q r x10 s hR (by omega) (by omega) (by omega) (hA)) (fun v11 h9 hq12 => ?_)
    obtain ⟨rfl, x13, rfl, px13⟩ := hq12
    show f_wp _ (31, [some (.inr (.inr (some 0))), some (.inl q), some (.inl r), some (.inl s)], [.inl x13, .inl x7], mH a b) _
    refine w_ic_ge rfl (fun c14 => ?_) (fun c14 => ?_)
    · skip
      refine w_const rfl ?_
      exact wp_iret (z := true) rfl (fun _ => by first | exact Or.inl rfl | exact Or.inr rfl | (rcases (by omega : (0 : Int32).toInt = 0 ∨ (0 : Int32).toInt = 1) with h8 | h8; exact Or.inl (ti_eq h8); exact Or.inr (ti_eq h8))) ⟨rfl, ⟨_, rfl, by omega⟩⟩
    · skip
      refine w_const rfl ?_
      refine w_goto rfl ?_
      exact wp_iret (z := true) rfl (fun _ => by first | exact Or.inl rfl | exact Or.inr rfl | (rcases (by omega : (1 : Int32).toInt = 0 ∨ (1 : Int32).toInt = 1) with h8 | h8; exact Or.inl (ti_eq h8); exact Or.inr (ti_eq h8))) ⟨rfl, ⟨_, rfl, by omega⟩⟩
set_option maxRecDepth 4000 in
theorem s_areServed {K : Nat} (a : Nat → Nat → Int32) (b : Nat → Nat → Int64) (q : Int32) (s : Int32) (hR : RM K a) (hb : 0 ≤ q.toInt ∧ q.toInt ≤ 1260 ∧ q.toInt % 60 = 0) (hs : 0 ≤ s.toInt ∧ s.toInt < 4) (hA : AC a q.toInt.toNat) : f_call mtM 12 58 [.inr (.inr (some 0)), .inl q, .inl s] (mH a b) (fun v9 h' => h' = mH a b ∧ ∃ x : Int32, v9 = some (.inl x) ∧ (x.toInt = 0 ∨ x.toInt = 1)) := by
  refine f_call_of (d0 := 11) rfl (Nat.le_of_ble_eq_true rfl) (fun d hd => ?_)
  show f_wp _ (0, [some (.inr (.inr (some 0))), some (.inl q), some (.inl s), none, none], [], mH a b) _
  have l0 : (0 : Int32).toInt = 0 := rfl
  have l1 : (1 : Int32).toInt = 1 := rfl
  refine w_const rfl ?_
  refine w_istore (lo' := [some (.inr (.inr (some 0))), some (.inl q), some (.inl s), some (.inl 1), none]) rfl rfl ?_
  refine w_const rfl ?_
  refine w_istore (lo' := [some (.inr (.inr (some 0))), some (.inl q), some (.inl s), some (.inl 1), some (.inl 0)]) rfl rfl ?_
  have loop5 : ∀ (ms9 : Nat) (are : Int32) (r : Int32) , (6 - r.toInt).toNat = ms9 → (0 ≤ r.toInt ∧ r.toInt ≤ 6) → (are.toInt = 0 ∨ are.toInt = 1) → f_wp (f_code (t_X13_areServed (f_ev mtM d))) (5, [some (.inr (.inr (some 0))), some (.inl q), some (.inl s), some (.inl are), some (.inl r)], [], mH a b) (fun v9 h' => h' = mH a b ∧ ∃ x : Int32, v9 = some (.inl x) ∧ (x.toInt = 0 ∨ x.toInt = 1)) := by
    intro ms9
    induction ms9 using Nat.strongRecOn with
    | _ ms5 ih5 =>
      intro are r  hm5 hr ha
      refine w_iload rfl rfl ?_
      refine w_aload rfl rfl ?_
      refine w_invV (rest := [.inl r]) rfl rfl rfl rfl rfl (Nat.le_of_ble_eq_true rfl) rfl (by omega) (s_rivers (K := K) a b   hR ) (fun v1 h9 hq2 => ?_)
      obtain ⟨rfl, x3, rfl, px3⟩ := hq2
      show f_wp _ (11, [some (.inr (.inr (some 0))), some (.inl q), some (.inl s), some (.inl are), some (.inl r)], [.inl x3, .inl r], mH a b) _
      refine w_ic_ge rfl (fun c4 => ?_) (fun c4 => ?_)
      · skip
        refine w_iload rfl rfl ?_
        exact wp_iret (z := true) rfl (fun _ => by first | exact Or.inl rfl | exact Or.inr rfl | (rcases (by omega : are.toInt = 0 ∨ are.toInt = 1) with h8 | h8; exact Or.inl (ti_eq h8); exact Or.inr (ti_eq h8))) ⟨rfl, ⟨_, rfl, by omega⟩⟩
      · skip
        refine w_iload rfl rfl ?_
        refine w_if_eq rfl (fun c5 => ?_) (fun c5 => ?_)
        · skip
          refine w_iload rfl rfl ?_
          exact wp_iret (z := true) rfl (fun _ => by first | exact Or.inl rfl | exact Or.inr rfl | (rcases (by omega : are.toInt = 0 ∨ are.toInt = 1) with h8 | h8; exact Or.inl (ti_eq h8); exact Or.inr (ti_eq h8))) ⟨rfl, ⟨_, rfl, by omega⟩⟩
        · skip
          refine w_aload rfl rfl ?_
          refine w_iload rfl rfl ?_
          refine w_iload rfl rfl ?_
          refine w_iload rfl rfl ?_
          refine w_invV (rest := []) rfl rfl rfl rfl rfl (Nat.le_of_ble_eq_true rfl) rfl (by omega) (s_isDry (K := K) a b  q r s hR (by omega) (by omega) (by omega) (hA)) (fun v6 h9 hq7 => ?_)
          obtain ⟨rfl, x8, rfl, px8⟩ := hq7
          show f_wp _ (26, [some (.inr (.inr (some 0))), some (.inl q), some (.inl s), some (.inl are), some (.inl r)], [.inl x8], mH a b) _
          refine w_if_ne rfl (fun c9 => ?_) (fun c9 => ?_)
          · skip
            refine w_aload rfl rfl ?_
            refine w_iload rfl rfl ?_
            refine w_iload rfl rfl ?_
            refine w_iload rfl rfl ?_
            refine w_invV (rest := []) rfl rfl rfl rfl rfl (Nat.le_of_ble_eq_true rfl) rfl (by omega) (s_isFlooded (K := K) a b  q r s hR (by omega) (by omega) (by omega) (hA)) (fun v10 h9 hq11 => ?_)
            obtain ⟨rfl, x12, rfl, px12⟩ := hq11
            show f_wp _ (37, [some (.inr (.inr (some 0))), some (.inl q), some (.inl s), some (.inl are), some (.inl r)], [.inl x12], mH a b) _
            refine w_if_ne rfl (fun c13 => ?_) (fun c13 => ?_)
            · skip
              refine w_const rfl ?_
              refine w_goto rfl ?_
              refine w_istore (lo' := [some (.inr (.inr (some 0))), some (.inl q), some (.inl s), some (.inl 1), some (.inl r)]) rfl rfl ?_
              refine w_iinc (lo' := fun z9 => [some (.inr (.inr (some 0))), some (.inl q), some (.inl s), some (.inl 1), some (.inl z9)]) rfl rfl (fun _ => rfl) (by omega) (fun x14 tx14 => ?_)
              refine w_goto rfl ?_
              exact ih5 (6 - x14.toInt).toNat (by omega) 1 x14 rfl  (by omega) (by omega)
            · skip
              refine w_const rfl ?_
              refine w_istore (lo' := [some (.inr (.inr (some 0))), some (.inl q), some (.inl s), some (.inl 0), some (.inl r)]) rfl rfl ?_
              refine w_iinc (lo' := fun z9 => [some (.inr (.inr (some 0))), some (.inl q), some (.inl s), some (.inl 0), some (.inl z9)]) rfl rfl (fun _ => rfl) (by omega) (fun x15 tx15 => ?_)
              refine w_goto rfl ?_
              exact ih5 (6 - x15.toInt).toNat (by omega) 0 x15 rfl  (by omega) (by omega)
          · skip
            refine w_const rfl ?_
            refine w_istore (lo' := [some (.inr (.inr (some 0))), some (.inl q), some (.inl s), some (.inl 0), some (.inl r)]) rfl rfl ?_
            refine w_iinc (lo' := fun z9 => [some (.inr (.inr (some 0))), some (.inl q), some (.inl s), some (.inl 0), some (.inl z9)]) rfl rfl (fun _ => rfl) (by omega) (fun x16 tx16 => ?_)
            refine w_goto rfl ?_
            exact ih5 (6 - x16.toInt).toNat (by omega) 0 x16 rfl  (by omega) (by omega)
  exact loop5 _ 1 0 rfl  (by omega) (by omega)
