set_option maxRecDepth 4000 in
theorem s_takeWord {K : Nat} (a : Nat → Nat → Int32) (b : Nat → Nat → Int64) (N : Nat)(c : Int32) (hR : RM K a) (hc : 0 ≤ c.toInt ∧ c.toInt ≤ 30) (hT : N ≤ 1000 ∧ (a 0 7).toInt ≤ N ∧ (a 2 N).toInt = 0) : f_call mtM 3 13 [.inr (.inr (some 0)), .inl c] (mH a b) (fun v9 h' => ∃ (a' : Nat → Nat → Int32), h' = mH a' b ∧ RM K a' ∧ (FR [0] a a' ∧ (((∀ j, j ≠ 7 → j ≠ 8 → a' 0 j = a 0 j) ∧ (a 0 7).toInt ≤ (a' 0 7).toInt ∧ (a' 0 7).toInt ≤ N) ∧ (((a' 0 8).toInt = 0 ∧ (a 0 8).toInt = 0 ∧ (a' 0 7).toInt = (a 0 7).toInt + 1) ∨ (0 < (a' 0 8).toInt ∧ (a' 0 7).toInt = (a 0 7).toInt)))) ∧ v9 = none) := by
  refine f_call_of (d0 := 2) rfl (Nat.le_of_ble_eq_true rfl) (fun d hd => ?_)
  show f_wp _ (0, [some (.inr (.inr (some 0))), some (.inl c)], [], mH a b) _
  have l1 : (1 : Int32).toInt = 1 := rfl
  have z7 : 0 ≤ (a 0 7).toInt ∧ (a 0 7).toInt ≤ 1000 := hR 0 7
  have z8 : 0 ≤ (a 0 8).toInt ∧ (a 0 8).toInt ≤ 2147483647 := hR 0 8
  refine w_aload rfl rfl ?_
  refine w_iload rfl rfl ?_
  refine w_invV (rest := []) rfl rfl rfl rfl rfl (Nat.le_of_ble_eq_true rfl) rfl (by omega) (s_hasWord (K := K) a b N c hR (by omega) (hT)) (fun v1 h9 hq2 => ?_)
  obtain ⟨a3, rfl, ha3, fa3, x4, rfl, px4⟩ := hq2
  show f_wp _ (5, [some (.inr (.inr (some 0))), some (.inl c)], [.inl x4], mH a3 b) _
  refine w_if_ne rfl (fun c5 => ?_) (fun c5 => ?_)
  · skip
    refine w_aload rfl rfl ?_
    refine w_const rfl ?_
    refine w_invV (rest := []) rfl rfl rfl rfl rfl (Nat.le_of_ble_eq_true rfl) rfl (by omega) (s_wrong (K := K) a3 b  1 ha3 (by omega)) (fun v6 h9 hq7 => ?_)
    obtain ⟨a8, rfl, ha8, fa8, rfl⟩ := hq7
    show f_wp _ (13, [some (.inr (.inr (some 0))), some (.inl c)], [], mH a8 b) _
    exact w_ret rfl ⟨a8, rfl, ha8, ⟨FR.tr (FR.tr (FR.rf) (FR.sub fa3.1 (by decide))) (FR.sub fa8.1 (by decide)), ⟨⟨fun j h7 h8 => by rw [fa8.2.1 j h8]; exact fa3.2.1.1 j h7 h8, by rw [fa8.2.1 7 (by decide)]; omega, by rw [fa8.2.1 7 (by decide)]; omega⟩, Or.inr ⟨fa8.2.2, by rw [fa8.2.1 7 (by decide)]; omega⟩⟩⟩, rfl⟩
  · skip
    exact w_ret rfl ⟨a3, rfl, ha3, ⟨FR.tr (FR.rf) (FR.sub fa3.1 (by decide)), ⟨fa3.2.1, Or.inl ⟨by rw [fa3.2.2.1]; omega, by omega, by omega⟩⟩⟩, rfl⟩
set_option maxRecDepth 4000 in
theorem s_wordHere {K : Nat} (a : Nat → Nat → Int32) (b : Nat → Nat → Int64) (f : Int32) (m : Int32) (hR : RM K a) (hf : 0 ≤ f.toInt ∧ 0 ≤ m.toInt ∧ f.toInt + m.toInt ≤ 31 ∧ m.toInt ≤ 31 ∧ f.toInt ≤ 31) : f_call mtM 2 18 [.inr (.inr (some 0)), .inl f, .inl m] (mH a b) (fun v9 h' => h' = mH a b ∧ ∃ x : Int32, v9 = some (.inl x) ∧ ((x.toInt = -1) ∨ (0 ≤ x.toInt ∧ x.toInt < m.toInt ∧ (a 0 8).toInt = 0 ∧ (a 2 (a 0 7).toInt.toNat).toInt = 1))) := by
  refine f_call_of (d0 := 1) rfl (Nat.le_of_ble_eq_true rfl) (fun d hd => ?_)
  show f_wp _ (0, [some (.inr (.inr (some 0))), some (.inl f), some (.inl m), none, none], [], mH a b) _
  have lm1 : (-1 : Int32).toInt = -1 := rfl
  have l0 : (0 : Int32).toInt = 0 := rfl
  have l1 : (1 : Int32).toInt = 1 := rfl
  refine w_const rfl ?_
  refine w_istore (lo' := [some (.inr (.inr (some 0))), some (.inl f), some (.inl m), some (.inl (-1)), none]) rfl rfl ?_
  refine w_const rfl ?_
  refine w_istore (lo' := [some (.inr (.inr (some 0))), some (.inl f), some (.inl m), some (.inl (-1)), some (.inl 0)]) rfl rfl ?_
  have loop5 : ∀ (ms9 : Nat) (w : Int32) (k : Int32) , (m.toInt - k.toInt).toNat = ms9 → (0 ≤ k.toInt ∧ k.toInt ≤ m.toInt) → (w.toInt = -1 ∨ (0 ≤ w.toInt ∧ w.toInt < k.toInt ∧ (a 0 8).toInt = 0 ∧ (a 2 (a 0 7).toInt.toNat).toInt = 1)) → f_wp (f_code (t_X13_wordHere (f_ev mtM d))) (5, [some (.inr (.inr (some 0))), some (.inl f), some (.inl m), some (.inl w), some (.inl k)], [], mH a b) (fun v9 h' => h' = mH a b ∧ ∃ x : Int32, v9 = some (.inl x) ∧ ((x.toInt = -1) ∨ (0 ≤ x.toInt ∧ x.toInt < m.toInt ∧ (a 0 8).toInt = 0 ∧ (a 2 (a 0 7).toInt.toNat).toInt = 1))) := by
    intro ms9
    induction ms9 using Nat.strongRecOn with
    | _ ms5 ih5 =>
      intro w k  hm5 hk hw
      refine w_iload rfl rfl ?_
      refine w_iload rfl rfl ?_
      refine w_ic_ge rfl (fun c1 => ?_) (fun c1 => ?_)
      · skip
        refine w_iload rfl rfl ?_
        exact wp_iret (z := false) rfl (fun h9 => by cases h9) ⟨rfl, ⟨_, rfl, by omega⟩⟩
      · skip
        refine w_aload rfl rfl ?_
        refine w_iload rfl rfl ?_
        refine w_iload rfl rfl ?_
        first | refine w_iadd rfl (by omega) (fun x2 tx2 => ?_) | refine w_iiU rfl (fun x2 tx2 => ?_)
        refine w_invV (rest := []) rfl rfl rfl rfl rfl (Nat.le_of_ble_eq_true rfl) rfl (by omega) (s_isWord (K := K) a b  x2 hR (by omega)) (fun v3 h9 hq4 => ?_)
        obtain ⟨rfl, x5, rfl, px5⟩ := hq4
        show f_wp _ (19, [some (.inr (.inr (some 0))), some (.inl f), some (.inl m), some (.inl w), some (.inl k)], [.inl x5], mH a b) _
        refine w_if_eq rfl (fun c6 => ?_) (fun c6 => ?_)
        · skip
          refine w_iload rfl rfl ?_
          refine w_istore (lo' := [some (.inr (.inr (some 0))), some (.inl f), some (.inl m), some (.inl w), some (.inl k)]) rfl rfl ?_
          refine w_iinc (lo' := fun z9 => [some (.inr (.inr (some 0))), some (.inl f), some (.inl m), some (.inl w), some (.inl z9)]) rfl rfl (fun _ => rfl) (by omega) (fun x7 tx7 => ?_)
          refine w_goto rfl ?_
          exact ih5 (m.toInt - x7.toInt).toNat (by omega) w x7 rfl  (by omega) (by omega)
        · skip
          refine w_iload rfl rfl ?_
          refine w_goto rfl ?_
          refine w_istore (lo' := [some (.inr (.inr (some 0))), some (.inl f), some (.inl m), some (.inl k), some (.inl k)]) rfl rfl ?_
          refine w_iinc (lo' := fun z9 => [some (.inr (.inr (some 0))), some (.inl f), some (.inl m), some (.inl k), some (.inl z9)]) rfl rfl (fun _ => rfl) (by omega) (fun x8 tx8 => ?_)
          refine w_goto rfl ?_
          exact ih5 (m.toInt - x8.toInt).toNat (by omega) k x8 rfl  (by omega) (by omega)
  exact loop5 _ (-1) 0 rfl  (by omega) (by omega)
