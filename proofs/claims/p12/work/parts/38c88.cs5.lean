theorem wdb_some {n : Nat} (h : 1000 ≤ n ∧ n < 1031) : f_wdb (some n) = true := by
  unfold f_wdb
  dsimp only
  rw [decide_eq_true h.1, decide_eq_true h.2]
  rfl
theorem pW_some {n : Nat} (h : 1000 ≤ n ∧ n < 1031) : pW n = true := by
  unfold pW
  rw [decide_eq_true h.1, decide_eq_true h.2]
  rfl
set_option maxRecDepth 4000 in
theorem s_J0_coder_7d493 {K : Nat} (a : Nat → Nat → Int32) (b : Nat → Nat → Int64) (v : Nat → Option Nat)   : f_call mtC 1 165 [.inr (.inr (some 1033))] (cH a b v) (fun v9 h' => h' = cH a b v ∧ ∃ x : Int32, v9 = some (.inl x) ∧ x = 0) := by
  refine f_call_of (d0 := 0) rfl (Nat.le_of_ble_eq_true rfl) (fun d hd => ?_)
  show f_wp _ (0, [some (.inr (.inr (some 1033)))], [], cH a b v) _
  have l1 : (1 : Int32).toInt = 1 := rfl
  refine w_const rfl ?_
  refine w_if_eq rfl (fun c1 => ?_) (fun c1 => ?_)
  · exfalso; omega
  · skip
    refine w_aload rfl rfl ?_
    refine c_sfld rfl rfl ?_
    refine w_goto rfl ?_
    exact wp_r (z := (some (.inl 0), cH a b v)) rfl (by unfold i_retb; exact if_pos (Or.inl rfl)) ⟨rfl, ⟨_, rfl, rfl⟩⟩
set_option maxRecDepth 4000 in
theorem s_J0_isLatin1_aae02 {K : Nat} (a : Nat → Nat → Int32) (b : Nat → Nat → Int64) (v : Nat → Option Nat)   : f_call mtC 1 163 [.inr (.inr (some 1033))] (cH a b v) (fun v9 h' => h' = cH a b v ∧ ∃ x : Int32, v9 = some (.inl x) ∧ x.toInt = 1) := by
  refine f_call_of (d0 := 0) rfl (Nat.le_of_ble_eq_true rfl) (fun d hd => ?_)
  show f_wp _ (0, [some (.inr (.inr (some 1033)))], [], cH a b v) _
  have l0 : (0 : Int32).toInt = 0 := rfl
  have l1 : (1 : Int32).toInt = 1 := rfl
  refine w_const rfl ?_
  refine w_if_eq rfl (fun c1 => ?_) (fun c1 => ?_)
  · exfalso; omega
  · skip
    refine w_aload rfl rfl ?_
    refine c_sfld rfl rfl ?_
    refine w_if_ne rfl (fun c2 => ?_) (fun c2 => ?_)
    · skip
      refine w_const rfl ?_
      refine w_goto rfl ?_
      exact wp_iret (z := true) rfl (fun _ => by first | exact Or.inl rfl | exact Or.inr rfl | (rcases (by omega : (1 : Int32).toInt = 0 ∨ (1 : Int32).toInt = 1) with h8 | h8; exact Or.inl (ti_eq h8); exact Or.inr (ti_eq h8))) ⟨rfl, ⟨_, rfl, by omega⟩⟩
    · exfalso; omega
set_option maxRecDepth 4000 in
theorem s_J0_length_8abf5 {K : Nat} (a : Nat → Nat → Int32) (b : Nat → Nat → Int64) (v : Nat → Option Nat)   : f_call mtC 2 164 [.inr (.inr (some 1033))] (cH a b v) (fun v9 h' => h' = cH a b v ∧ ∃ x : Int32, v9 = some (.inl x) ∧ x.toInt = 8) := by
  refine f_call_of (d0 := 1) rfl (Nat.le_of_ble_eq_true rfl) (fun d hd => ?_)
  show f_wp _ (0, [some (.inr (.inr (some 1033)))], [], cH a b v) _
  have l4 : (4 : Int32).toInt = 4 := rfl
  have l6 : (6 : Int32).toInt = 6 := rfl
  have l8 : (8 : Int32).toInt = 8 := rfl
  have l16 : (16 : Int32).toInt = 16 := rfl
  have l31 : (31 : Int32).toInt = 31 := rfl
  have l384 : (384 : Int32).toInt = 384 := rfl
  have l1000 : (1000 : Int32).toInt = 1000 := rfl
  refine w_aload rfl rfl ?_
  refine c_sfld rfl rfl ?_
  refine c_slen rfl ?_
  show f_wp _ (5, [some (.inr (.inr (some 1033)))], .inl 8 :: [], cH a b v) _
  refine w_aload rfl rfl ?_
  refine c_invW (rest := [.inl 8]) rfl rfl (rfl) rfl (Nat.le_of_ble_eq_true rfl) rfl (by omega) (s_J0_coder_7d493 (K := K) a b v     ) (fun z1 h9 hq2 => ?_)
  obtain ⟨rfl, x3, rfl, px3⟩ := hq2
  show f_wp _ (9, [some (.inr (.inr (some 1033)))], [.inl x3, .inl 8], cH a b v) _
  have c9 := px3
  refine w_iiE rfl (fun x4 tx4 => ?_)
  have d9 : x4.toInt = 8 := by rw [tx4, c9]; rfl
  exact wp_iret (z := false) rfl (fun h9 => by cases h9) ⟨rfl, ⟨_, rfl, by omega⟩⟩
set_option maxRecDepth 4000 in
theorem s_J1_canEncode_9a6ad {K : Nat} (a : Nat → Nat → Int32) (b : Nat → Nat → Int64) (v : Nat → Option Nat) (p : Int32)  : f_call mtC 1 167 [.inl p] (cH a b v) (fun v9 h' => h' = cH a b v ∧ ∃ x : Int32, v9 = some (.inl x) ∧ (x.toInt = 0 ∨ x.toInt = 1)) := by
  refine f_call_of (d0 := 0) rfl (Nat.le_of_ble_eq_true rfl) (fun d hd => ?_)
  show f_wp _ (0, [some (.inl p)], [], cH a b v) _
  have l0 : (0 : Int32).toInt = 0 := rfl
  have l1 : (1 : Int32).toInt = 1 := rfl
  have l255 : (255 : Int32).toInt = 255 := rfl
  refine w_iload rfl rfl ?_
  refine w_if_lt rfl (fun c1 => ?_) (fun c1 => ?_)
  · skip
    refine w_const rfl ?_
    exact wp_iret (z := true) rfl (fun _ => by first | exact Or.inl rfl | exact Or.inr rfl | (rcases (by omega : (0 : Int32).toInt = 0 ∨ (0 : Int32).toInt = 1) with h8 | h8; exact Or.inl (ti_eq h8); exact Or.inr (ti_eq h8))) ⟨rfl, ⟨_, rfl, by omega⟩⟩
  · skip
    refine w_iload rfl rfl ?_
    refine w_const rfl ?_
    refine w_ic_gt rfl (fun c2 => ?_) (fun c2 => ?_)
    · skip
      refine w_const rfl ?_
      exact wp_iret (z := true) rfl (fun _ => by first | exact Or.inl rfl | exact Or.inr rfl | (rcases (by omega : (0 : Int32).toInt = 0 ∨ (0 : Int32).toInt = 1) with h8 | h8; exact Or.inl (ti_eq h8); exact Or.inr (ti_eq h8))) ⟨rfl, ⟨_, rfl, by omega⟩⟩
    · skip
      refine w_const rfl ?_
      refine w_goto rfl ?_
      exact wp_iret (z := true) rfl (fun _ => by first | exact Or.inl rfl | exact Or.inr rfl | (rcases (by omega : (1 : Int32).toInt = 0 ∨ (1 : Int32).toInt = 1) with h8 | h8; exact Or.inl (ti_eq h8); exact Or.inr (ti_eq h8))) ⟨rfl, ⟨_, rfl, by omega⟩⟩
set_option maxRecDepth 4000 in
theorem s_J1_indexOfChar_4cfef {K : Nat} (a : Nat → Nat → Int32) (b : Nat → Nat → Int64) (v : Nat → Option Nat) (p : Int32) (q : Int32) (r : Int32) (hq : 0 ≤ q.toInt ∧ q.toInt ≤ 8 ∧ r.toInt ≤ 8) : f_call mtC 1 168 [.inr (.inr (some 1034)), .inl p, .inl q, .inl r] (cH a b v) (fun v9 h' => h' = cH a b v ∧ ∃ x : Int32, v9 = some (.inl x) ∧ True) := by
  refine f_call_of (d0 := 0) rfl (Nat.le_of_ble_eq_true rfl) (fun d hd => ?_)
  show f_wp _ (0, [some (.inr (.inr (some 1034))), some (.inl p), some (.inl q), some (.inl r), none, none], [], cH a b v) _
  have lm1 : (-1 : Int32).toInt = -1 := rfl
  have l1 : (1 : Int32).toInt = 1 := rfl
  refine w_iload rfl rfl ?_
  refine w_i1U rfl (fun x1 tx1 => ?_)
  refine w_istore (lo' := [some (.inr (.inr (some 1034))), some (.inl p), some (.inl q), some (.inl r), some (.inl x1), none]) rfl rfl ?_
  refine w_iload rfl rfl ?_
  refine w_istore (lo' := [some (.inr (.inr (some 1034))), some (.inl p), some (.inl q), some (.inl r), some (.inl x1), some (.inl q)]) rfl rfl ?_
  have loop7 : ∀ (ms9 : Nat) (i : Int32) , (8 - i.toInt).toNat = ms9 → (0 ≤ i.toInt ∧ i.toInt ≤ 8) → f_wp (f_code (t_J1_indexOfChar_4cfef (f_ev mtC d))) (7, [some (.inr (.inr (some 1034))), some (.inl p), some (.inl q), some (.inl r), some (.inl x1), some (.inl i)], [], cH a b v) (fun v9 h' => h' = cH a b v ∧ ∃ x : Int32, v9 = some (.inl x) ∧ True) := by
    intro ms9
    induction ms9 using Nat.strongRecOn with
    | _ ms7 ih7 =>
      intro i  hm7 hi
      refine w_iload rfl rfl ?_
      refine w_iload rfl rfl ?_
      refine w_ic_ge rfl (fun c2 => ?_) (fun c2 => ?_)
      · skip
        refine w_const rfl ?_
        exact wp_iret (z := false) rfl (fun h9 => by cases h9) ⟨rfl, ⟨_, rfl, trivial⟩⟩
      · skip
        refine w_aload rfl rfl ?_
        refine w_iload rfl rfl ?_
        refine c_sel (N := 8) rfl (by omega) ?_
        refine w_iload rfl rfl ?_
        refine w_ic_ne rfl (fun c3 => ?_) (fun c3 => ?_)
        · skip
          refine w_iload rfl rfl ?_
          exact wp_iret (z := false) rfl (fun h9 => by cases h9) ⟨rfl, ⟨_, rfl, trivial⟩⟩
        · skip
          refine w_iinc (lo' := fun z9 => [some (.inr (.inr (some 1034))), some (.inl p), some (.inl q), some (.inl r), some (.inl x1), some (.inl z9)]) rfl rfl (fun _ => rfl) (by omega) (fun x4 tx4 => ?_)
          refine w_goto rfl ?_
          exact ih7 (8 - x4.toInt).toNat (by omega) x4 rfl  (by omega)
  exact loop7 _ q rfl  (by omega)
set_option maxRecDepth 4000 in
theorem s_J1_indexOf_4cfef {K : Nat} (a : Nat → Nat → Int32) (b : Nat → Nat → Int64) (v : Nat → Option Nat) (p : Int32) (q : Int32) (r : Int32)  : f_call mtC 2 166 [.inr (.inr (some 1034)), .inl p, .inl q, .inl r] (cH a b v) (fun v9 h' => h' = cH a b v ∧ ∃ x : Int32, v9 = some (.inl x) ∧ True) := by
  refine f_call_of (d0 := 1) rfl (Nat.le_of_ble_eq_true rfl) (fun d hd => ?_)
  show f_wp _ (0, [some (.inr (.inr (some 1034))), some (.inl p), some (.inl q), some (.inl r)], [], cH a b v) _
  have lm1 : (-1 : Int32).toInt = -1 := rfl
  have l0 : (0 : Int32).toInt = 0 := rfl
  have l4 : (4 : Int32).toInt = 4 := rfl
  have l6 : (6 : Int32).toInt = 6 := rfl
  have l8 : (8 : Int32).toInt = 8 := rfl
  have l16 : (16 : Int32).toInt = 16 := rfl
  have l31 : (31 : Int32).toInt = 31 := rfl
  have l384 : (384 : Int32).toInt = 384 := rfl
  have l1000 : (1000 : Int32).toInt = 1000 := rfl
  refine w_iload rfl rfl ?_
  refine w_invS (rest := []) rfl (Nat.le_of_ble_eq_true rfl) rfl (Nat.le_of_ble_eq_true rfl) rfl (by omega) (s_J1_canEncode_9a6ad (K := K) a b v  p   ) (fun z1 h9 hq2 => ?_)
  obtain ⟨rfl, x3, rfl, px3⟩ := hq2
  show f_wp _ (4, [some (.inr (.inr (some 1034))), some (.inl p), some (.inl q), some (.inl r)], [.inl x3], cH a b v) _
  refine w_if_ne rfl (fun c4 => ?_) (fun c4 => ?_)
  · skip
    refine w_const rfl ?_
    exact wp_iret (z := false) rfl (fun h9 => by cases h9) ⟨rfl, ⟨_, rfl, trivial⟩⟩
  · skip
    refine w_iload rfl rfl ?_
    refine w_const rfl ?_
    refine c_mmax rfl (Nat.le_of_ble_eq_true rfl) (fun x5 tx5 => ?_)
    refine w_istore (lo' := [some (.inr (.inr (some 1034))), some (.inl p), some (.inl x5), some (.inl r)]) rfl rfl ?_
    refine w_iload rfl rfl ?_
    refine w_aload rfl rfl ?_
    refine c_slen rfl ?_
    show f_wp _ (18, [some (.inr (.inr (some 1034))), some (.inl p), some (.inl x5), some (.inl r)], .inl 8 :: [.inl r], cH a b v) _
    refine c_mmin rfl (Nat.le_of_ble_eq_true rfl) (fun x6 tx6 => ?_)
    refine w_istore (lo' := [some (.inr (.inr (some 1034))), some (.inl p), some (.inl x5), some (.inl x6)]) rfl rfl ?_
    refine w_iload rfl rfl ?_
    refine w_iload rfl rfl ?_
    refine w_ic_lt rfl (fun c7 => ?_) (fun c7 => ?_)
    · skip
      refine w_aload rfl rfl ?_
      refine w_iload rfl rfl ?_
      refine w_iload rfl rfl ?_
      refine w_iload rfl rfl ?_
      refine w_invS (rest := []) rfl (Nat.le_of_ble_eq_true rfl) rfl (Nat.le_of_ble_eq_true rfl) rfl (by omega) (s_J1_indexOfChar_4cfef (K := K) a b v  p x5 x6   (by omega)) (fun z8 h9 hq9 => ?_)
      obtain ⟨rfl, x10, rfl, px10⟩ := hq9
      show f_wp _ (36, [some (.inr (.inr (some 1034))), some (.inl p), some (.inl x5), some (.inl x6)], [.inl x10], cH a b v) _
      exact wp_iret (z := false) rfl (fun h9 => by cases h9) ⟨rfl, ⟨_, rfl, trivial⟩⟩
    · skip
      refine w_const rfl ?_
      exact wp_iret (z := false) rfl (fun h9 => by cases h9) ⟨rfl, ⟨_, rfl, trivial⟩⟩
set_option maxRecDepth 4000 in
theorem s_J0_indexOf_7cf53 {K : Nat} (a : Nat → Nat → Int32) (b : Nat → Nat → Int64) (v : Nat → Option Nat) (p : Int32) (q : Int32)  : f_call mtC 3 162 [.inr (.inr (some 1033)), .inl p, .inl q] (cH a b v) (fun v9 h' => h' = cH a b v ∧ ∃ x : Int32, v9 = some (.inl x) ∧ True) := by
  refine f_call_of (d0 := 2) rfl (Nat.le_of_ble_eq_true rfl) (fun d hd => ?_)
  show f_wp _ (0, [some (.inr (.inr (some 1033))), some (.inl p), some (.inl q)], [], cH a b v) _
  refine w_aload rfl rfl ?_
  refine c_invW (rest := []) rfl rfl (rfl) rfl (Nat.le_of_ble_eq_true rfl) rfl (by omega) (s_J0_isLatin1_aae02 (K := K) a b v     ) (fun z1 h9 hq2 => ?_)
  obtain ⟨rfl, x3, rfl, px3⟩ := hq2
  show f_wp _ (4, [some (.inr (.inr (some 1033))), some (.inl p), some (.inl q)], [.inl x3], cH a b v) _
  refine w_if_eq rfl (fun c4 => ?_) (fun c4 => ?_)
  · exfalso; omega
  · skip
    refine w_aload rfl rfl ?_
    refine c_sfld rfl rfl ?_
    refine w_iload rfl rfl ?_
    refine w_iload rfl rfl ?_
    refine w_aload rfl rfl ?_
    refine c_invW (rest := [.inl q, .inl p, .inr (.inr (some 1034))]) rfl rfl (rfl) rfl (Nat.le_of_ble_eq_true rfl) rfl (by omega) (s_J0_length_8abf5 (K := K) a b v     ) (fun z5 h9 hq6 => ?_)
    obtain ⟨rfl, x7, rfl, px7⟩ := hq6
    show f_wp _ (17, [some (.inr (.inr (some 1033))), some (.inl p), some (.inl q)], [.inl x7, .inl q, .inl p, .inr (.inr (some 1034))], cH a b v) _
    refine w_invS (rest := []) rfl (Nat.le_of_ble_eq_true rfl) rfl (Nat.le_of_ble_eq_true rfl) rfl (by omega) (s_J1_indexOf_4cfef (K := K) a b v  p q x7   ) (fun z8 h9 hq9 => ?_)
    obtain ⟨rfl, x10, rfl, px10⟩ := hq9
    show f_wp _ (20, [some (.inr (.inr (some 1033))), some (.inl p), some (.inl q)], [.inl x10], cH a b v) _
    refine w_goto rfl ?_
    exact wp_iret (z := false) rfl (fun h9 => by cases h9) ⟨rfl, ⟨_, rfl, trivial⟩⟩
set_option maxRecDepth 4000 in
theorem s_J0_indexOf_0f7a4 {K : Nat} (a : Nat → Nat → Int32) (b : Nat → Nat → Int64) (v : Nat → Option Nat) (p : Int32)  : f_call mtC 4 161 [.inr (.inr (some 1033)), .inl p] (cH a b v) (fun v9 h' => h' = cH a b v ∧ ∃ x : Int32, v9 = some (.inl x) ∧ True) := by
  refine f_call_of (d0 := 3) rfl (Nat.le_of_ble_eq_true rfl) (fun d hd => ?_)
  show f_wp _ (0, [some (.inr (.inr (some 1033))), some (.inl p)], [], cH a b v) _
  have l0 : (0 : Int32).toInt = 0 := rfl
  refine w_aload rfl rfl ?_
  refine w_iload rfl rfl ?_
  refine w_const rfl ?_
  refine c_invW (rest := []) rfl rfl (rfl) rfl (Nat.le_of_ble_eq_true rfl) rfl (by omega) (s_J0_indexOf_7cf53 (K := K) a b v  p 0   ) (fun z1 h9 hq2 => ?_)
  obtain ⟨rfl, x3, rfl, px3⟩ := hq2
  show f_wp _ (6, [some (.inr (.inr (some 1033))), some (.inl p)], [.inl x3], cH a b v) _
  exact wp_iret (z := false) rfl (fun h9 => by cases h9) ⟨rfl, ⟨_, rfl, trivial⟩⟩
set_option maxRecDepth 4000 in
theorem s_X8_put {K : Nat} (a : Nat → Nat → Int32) (b : Nat → Nat → Int64) (v : Nat → Option Nat) (p : Int32) (hR : RC K a)  : f_call mtC 1 81 [.inr (.inr (some 1)), .inl p] (cH a b v) (fun v9 h' => ∃ (a' : Nat → Nat → Int32), h' = cH a' b v ∧ RC K a' ∧ (FR [1, 2] a a' ∧ ((∀ j, j ≠ 6 → a' 1 j = a 1 j) ∧ (a' 1 6).toInt = (a 1 6).toInt + (if (p.toInt = 10 ∨ (32 ≤ p.toInt ∧ p.toInt ≤ 126)) ∧ (a 1 6).toInt < 1000 then 1 else 0))) ∧ v9 = none) := by
  refine f_call_of (d0 := 0) rfl (Nat.le_of_ble_eq_true rfl) (fun d hd => ?_)
  show f_wp _ (0, [some (.inr (.inr (some 1))), some (.inl p), none], [], cH a b v) _
  have l0 : (0 : Int32).toInt = 0 := rfl
  have l1 : (1 : Int32).toInt = 1 := rfl
  have l10 : (10 : Int32).toInt = 10 := rfl
  have l32 : (32 : Int32).toInt = 32 := rfl
  have l126 : (126 : Int32).toInt = 126 := rfl
  have l1000 : (1000 : Int32).toInt = 1000 := rfl
  refine w_iload rfl rfl ?_
  refine w_const rfl ?_
  refine w_ic_eq rfl (fun c1 => ?_) (fun c1 => ?_)
  · skip
    refine w_const rfl ?_
    refine w_goto rfl ?_
    refine w_istore (lo' := [some (.inr (.inr (some 1))), some (.inl p), some (.inl 1)]) rfl rfl ?_
    refine w_iload rfl rfl ?_
    refine w_if_eq rfl (fun c2 => ?_) (fun c2 => ?_)
    · exfalso; omega
    · skip
      refine w_aload rfl rfl ?_
      refine c_getI rfl rfl rfl rfl ?_
      have q3 : 0 ≤ (a 1 6).toInt ∧ (a 1 6).toInt ≤ 1000 := hR 1 6
      refine w_const rfl ?_
      refine w_ic_ge rfl (fun c4 => ?_) (fun c4 => ?_)
      · skip
        exact w_ret rfl ⟨a, rfl, hR, ⟨FR.rf, ⟨fun _ _ => rfl, by rw [if_neg (by omega)]; omega⟩⟩, rfl⟩
      · skip
        refine w_aload rfl rfl ?_
        refine c_getR (t := some 2) rfl rfl rfl rfl rfl ?_
        refine w_aload rfl rfl ?_
        refine c_getI rfl rfl rfl rfl ?_
        have q5 : 0 ≤ (a 1 6).toInt ∧ (a 1 6).toInt ≤ 1000 := hR 1 6
        refine w_iload rfl rfl ?_
        refine w_i1U rfl (fun x6 tx6 => ?_)
        refine c_cast rfl rfl (by omega) (fun a7 ea7 => ?_)
        have ha7 : RC K a7 := RC.up hR ea7 (lc_any _ (by omega))
        have ra7_38 : (a7 1 6).toInt = (a 1 6).toInt := by rw [ea7, mU_cell (by omega)]
        refine w_aload rfl rfl ?_
        refine w_dup rfl rfl ?_
        refine c_getI rfl rfl rfl rfl ?_
        have q8 : 0 ≤ (a7 1 6).toInt ∧ (a7 1 6).toInt ≤ 1000 := ha7 1 6
        refine w_const rfl ?_
        first | refine w_iadd rfl (by omega) (fun x9 tx9 => ?_) | refine w_iiU rfl (fun x9 tx9 => ?_)
        refine c_putI (z := false) rfl rfl rfl rfl (by first | (intro h9; cases h9; done) | (intro _; first | exact Or.inl rfl | exact Or.inr rfl | assumption | (rcases (by omega : x9.toInt = 0 ∨ x9.toInt = 1) with h8 | h8; exact Or.inl (ti_eq h8); exact Or.inr (ti_eq h8)))) (fun a10 ea10 => ?_)
        have ha10 : RC K a10 := RC.up ha7 ea10 (show (0 : Int) ≤ _ ∧ _ ≤ (1000 : Int) from by omega)
        have ua10 : a10 1 6 = x9 := by rw [ea10, mU_same]
        have wa10 := congrArg Int32.toInt ua10
        exact w_ret rfl ⟨a10, rfl, ha10, ⟨FR.up (FR.up (FR.rf) (by first | decide | simp | (simp [cA]; omega) | (simp [cB]; omega)) ea7) (by first | decide | simp | (simp [cA]; omega) | (simp [cB]; omega)) ea10, ⟨fun j h9 => by rw [ea10, mU_slot h9, ea7, mU_cell (by decide)], by rw [if_pos (by omega), ea10, mU_same]; have z9 : (a7 1 6).toInt = (a 1 6).toInt := (by rw [ea7, mU_cell (by decide)]); omega⟩⟩, rfl⟩
  · skip
    refine w_iload rfl rfl ?_
    refine w_const rfl ?_
    refine w_ic_lt rfl (fun c11 => ?_) (fun c11 => ?_)
    · skip
      refine w_const rfl ?_
      refine w_istore (lo' := [some (.inr (.inr (some 1))), some (.inl p), some (.inl 0)]) rfl rfl ?_
      refine w_iload rfl rfl ?_
      refine w_if_eq rfl (fun c12 => ?_) (fun c12 => ?_)
      · skip
        exact w_ret rfl ⟨a, rfl, hR, ⟨FR.rf, ⟨fun _ _ => rfl, by rw [if_neg (by omega)]; omega⟩⟩, rfl⟩
      · exfalso; omega
    · skip
      refine w_iload rfl rfl ?_
      refine w_const rfl ?_
      refine w_ic_gt rfl (fun c13 => ?_) (fun c13 => ?_)
      · skip
        refine w_const rfl ?_
        refine w_istore (lo' := [some (.inr (.inr (some 1))), some (.inl p), some (.inl 0)]) rfl rfl ?_
        refine w_iload rfl rfl ?_
        refine w_if_eq rfl (fun c14 => ?_) (fun c14 => ?_)
        · skip
          exact w_ret rfl ⟨a, rfl, hR, ⟨FR.rf, ⟨fun _ _ => rfl, by rw [if_neg (by omega)]; omega⟩⟩, rfl⟩
        · exfalso; omega
      · skip
        refine w_const rfl ?_
        refine w_goto rfl ?_
        refine w_istore (lo' := [some (.inr (.inr (some 1))), some (.inl p), some (.inl 1)]) rfl rfl ?_
        refine w_iload rfl rfl ?_
        refine w_if_eq rfl (fun c15 => ?_) (fun c15 => ?_)
        · exfalso; omega
        · skip
          refine w_aload rfl rfl ?_
          refine c_getI rfl rfl rfl rfl ?_
          have q16 : 0 ≤ (a 1 6).toInt ∧ (a 1 6).toInt ≤ 1000 := hR 1 6
          refine w_const rfl ?_
          refine w_ic_ge rfl (fun c17 => ?_) (fun c17 => ?_)
          · skip
            exact w_ret rfl ⟨a, rfl, hR, ⟨FR.rf, ⟨fun _ _ => rfl, by rw [if_neg (by omega)]; omega⟩⟩, rfl⟩
          · skip
            refine w_aload rfl rfl ?_
            refine c_getR (t := some 2) rfl rfl rfl rfl rfl ?_
            refine w_aload rfl rfl ?_
            refine c_getI rfl rfl rfl rfl ?_
            have q18 : 0 ≤ (a 1 6).toInt ∧ (a 1 6).toInt ≤ 1000 := hR 1 6
            refine w_iload rfl rfl ?_
            refine w_i1U rfl (fun x19 tx19 => ?_)
            refine c_cast rfl rfl (by omega) (fun a20 ea20 => ?_)
            have ha20 : RC K a20 := RC.up hR ea20 (lc_any _ (by omega))
            have ra20_99 : (a20 1 6).toInt = (a 1 6).toInt := by rw [ea20, mU_cell (by omega)]
            refine w_aload rfl rfl ?_
            refine w_dup rfl rfl ?_
            refine c_getI rfl rfl rfl rfl ?_
            have q21 : 0 ≤ (a20 1 6).toInt ∧ (a20 1 6).toInt ≤ 1000 := ha20 1 6
            refine w_const rfl ?_
            first | refine w_iadd rfl (by omega) (fun x22 tx22 => ?_) | refine w_iiU rfl (fun x22 tx22 => ?_)
            refine c_putI (z := false) rfl rfl rfl rfl (by first | (intro h9; cases h9; done) | (intro _; first | exact Or.inl rfl | exact Or.inr rfl | assumption | (rcases (by omega : x22.toInt = 0 ∨ x22.toInt = 1) with h8 | h8; exact Or.inl (ti_eq h8); exact Or.inr (ti_eq h8)))) (fun a23 ea23 => ?_)
            have ha23 : RC K a23 := RC.up ha20 ea23 (show (0 : Int) ≤ _ ∧ _ ≤ (1000 : Int) from by omega)
            have ua23 : a23 1 6 = x22 := by rw [ea23, mU_same]
            have wa23 := congrArg Int32.toInt ua23
            exact w_ret rfl ⟨a23, rfl, ha23, ⟨FR.up (FR.up (FR.rf) (by first | decide | simp | (simp [cA]; omega) | (simp [cB]; omega)) ea20) (by first | decide | simp | (simp [cA]; omega) | (simp [cB]; omega)) ea23, ⟨fun j h9 => by rw [ea23, mU_slot h9, ea20, mU_cell (by decide)], by rw [if_pos (by omega), ea23, mU_same]; have z9 : (a20 1 6).toInt = (a 1 6).toInt := (by rw [ea20, mU_cell (by decide)]); omega⟩⟩, rfl⟩
set_option maxRecDepth 4000 in
theorem s_X8_empty {K : Nat} (a : Nat → Nat → Int32) (b : Nat → Nat → Int64) (v : Nat → Option Nat)  (hR : RC K a)  : f_call mtC 1 82 [.inr (.inr (some 1))] (cH a b v) (fun v9 h' => ∃ (a' : Nat → Nat → Int32), h' = cH a' b v ∧ RC K a' ∧ (FR [1] a a' ∧ ((a' 1 6).toInt = 0)) ∧ v9 = none) := by
  refine f_call_of (d0 := 0) rfl (Nat.le_of_ble_eq_true rfl) (fun d hd => ?_)
  show f_wp _ (0, [some (.inr (.inr (some 1)))], [], cH a b v) _
  have l0 : (0 : Int32).toInt = 0 := rfl
  refine w_aload rfl rfl ?_
  refine w_const rfl ?_
  refine c_putI (z := false) rfl rfl rfl rfl (by first | (intro h9; cases h9; done) | (intro _; first | exact Or.inl rfl | exact Or.inr rfl | assumption | (rcases (by omega : (0 : Int32).toInt = 0 ∨ (0 : Int32).toInt = 1) with h8 | h8; exact Or.inl (ti_eq h8); exact Or.inr (ti_eq h8)))) (fun a1 ea1 => ?_)
  have ha1 : RC K a1 := RC.up hR ea1 (show (0 : Int) ≤ _ ∧ _ ≤ (1000 : Int) from by omega)
  have ua1 : a1 1 6 = (0 : Int32) := by rw [ea1, mU_same]
  have wa1 := congrArg Int32.toInt ua1
  exact w_ret rfl ⟨a1, rfl, ha1, ⟨FR.up (FR.rf) (by first | decide | simp | (simp [cA]; omega) | (simp [cB]; omega)) ea1, by rw [ea1, mU_same]; rfl⟩, rfl⟩
set_option maxRecDepth 4000 in
theorem s_X8_keep {K : Nat} (a : Nat → Nat → Int32) (b : Nat → Nat → Int64) (v : Nat → Option Nat) (p : Int32) (q : Int32) (k : Int64) (hR : RC K a)  : f_call mtC 1 85 [.inr (.inr (some 1)), .inl p, .inl q, .inr (.inl k)] (cH a b v) (fun v9 h' => ∃ (a' : Nat → Nat → Int32) (b' : Nat → Nat → Int64), h' = cH a' b' v ∧ RC K a' ∧ (FR [1, 3, 4] a a' ∧ True) ∧ v9 = none) := by
  refine f_call_of (d0 := 0) rfl (Nat.le_of_ble_eq_true rfl) (fun d hd => ?_)
  show f_wp _ (0, [some (.inr (.inr (some 1))), some (.inl p), some (.inl q), some (.inr (.inl k)), none], [], cH a b v) _
  have l1 : (1 : Int32).toInt = 1 := rfl
  have l1000 : (1000 : Int32).toInt = 1000 := rfl
  refine w_aload rfl rfl ?_
  refine c_getI rfl rfl rfl rfl ?_
  have q1 : 0 ≤ (a 1 4).toInt ∧ (a 1 4).toInt ≤ 1001 := hR 1 4
  refine w_const rfl ?_
  refine w_ic_gt rfl (fun c2 => ?_) (fun c2 => ?_)
  · skip
    exact w_ret rfl ⟨a, b, rfl, hR, ⟨FR.rf, trivial⟩, rfl⟩
  · skip
    refine w_aload rfl rfl ?_
    refine c_getR (t := some 3) rfl rfl rfl rfl rfl ?_
    refine w_aload rfl rfl ?_
    refine c_getI rfl rfl rfl rfl ?_
    have q3 : 0 ≤ (a 1 4).toInt ∧ (a 1 4).toInt ≤ 1001 := hR 1 4
    refine w_iload rfl rfl ?_
    refine c_iast rfl rfl (by omega) (fun a4 ea4 => ?_)
    have ha4 : RC K a4 := RC.up hR ea4 (lc_any _ (by omega))
    have ra4_22 : (a4 1 4).toInt = (a 1 4).toInt := by rw [ea4, mU_cell (by omega)]
    refine w_aload rfl rfl ?_
    refine c_getR (t := some 4) rfl rfl rfl rfl rfl ?_
    refine w_aload rfl rfl ?_
    refine c_getI rfl rfl rfl rfl ?_
    have q5 : 0 ≤ (a4 1 4).toInt ∧ (a4 1 4).toInt ≤ 1001 := ha4 1 4
    refine w_iload rfl rfl ?_
    refine c_iast rfl rfl (by omega) (fun a6 ea6 => ?_)
    have ha6 : RC K a6 := RC.up ha4 ea6 (lc_any _ (by omega))
    have ra6_31 : (a6 1 4).toInt = (a4 1 4).toInt := by rw [ea6, mU_cell (by omega)]
    refine w_aload rfl rfl ?_
    refine c_getR (t := some 5) rfl rfl rfl rfl rfl ?_
    refine w_aload rfl rfl ?_
    refine c_getI rfl rfl rfl rfl ?_
    have q7 : 0 ≤ (a6 1 4).toInt ∧ (a6 1 4).toInt ≤ 1001 := ha6 1 4
    refine w_lload rfl rfl ?_
    refine c_last rfl rfl (by omega) (fun b8 eb8 => ?_)
    refine w_aload rfl rfl ?_
    refine w_dup rfl rfl ?_
    refine c_getI rfl rfl rfl rfl ?_
    have q9 : 0 ≤ (a6 1 4).toInt ∧ (a6 1 4).toInt ≤ 1001 := ha6 1 4
    refine w_const rfl ?_
    first | refine w_iadd rfl (by omega) (fun x10 tx10 => ?_) | refine w_iiU rfl (fun x10 tx10 => ?_)
    refine c_putI (z := false) rfl rfl rfl rfl (by first | (intro h9; cases h9; done) | (intro _; first | exact Or.inl rfl | exact Or.inr rfl | assumption | (rcases (by omega : x10.toInt = 0 ∨ x10.toInt = 1) with h8 | h8; exact Or.inl (ti_eq h8); exact Or.inr (ti_eq h8)))) (fun a11 ea11 => ?_)
    have ha11 : RC K a11 := RC.up ha6 ea11 (show (0 : Int) ≤ _ ∧ _ ≤ (1001 : Int) from by omega)
    have ua11 : a11 1 4 = x10 := by rw [ea11, mU_same]
    have wa11 := congrArg Int32.toInt ua11
    exact w_ret rfl ⟨a11, b8, rfl, ha11, ⟨FR.up (FR.up (FR.up (FR.rf) (by first | decide | simp | (simp [cA]; omega) | (simp [cB]; omega)) ea4) (by first | decide | simp | (simp [cA]; omega) | (simp [cB]; omega)) ea6) (by first | decide | simp | (simp [cA]; omega) | (simp [cB]; omega)) ea11, trivial⟩, rfl⟩
set_option maxRecDepth 4000 in
theorem s_X8_isLetter {K : Nat} (a : Nat → Nat → Int32) (b : Nat → Nat → Int64) (v : Nat → Option Nat) (i : Int32) (hR : RC K a) (hi : 0 ≤ i.toInt ∧ i.toInt < 1000) : f_call mtC 1 87 [.inr (.inr (some 1)), .inl i] (cH a b v) (fun v9 h' => h' = cH a b v ∧ ∃ x : Int32, v9 = some (.inl x) ∧ (x.toInt = 0 ∨ x.toInt = 1)) := by
  refine f_call_of (d0 := 0) rfl (Nat.le_of_ble_eq_true rfl) (fun d hd => ?_)
  show f_wp _ (0, [some (.inr (.inr (some 1))), some (.inl i)], [], cH a b v) _
  have l0 : (0 : Int32).toInt = 0 := rfl
  have l1 : (1 : Int32).toInt = 1 := rfl
  have l97 : (97 : Int32).toInt = 97 := rfl
  have l122 : (122 : Int32).toInt = 122 := rfl
  refine w_aload rfl rfl ?_
  refine c_getR (t := some 2) rfl rfl rfl rfl rfl ?_
  refine w_iload rfl rfl ?_
  refine c_cald rfl rfl (by omega) (fun x1 ex1 => ?_)
  refine w_const rfl ?_
  refine w_ic_lt rfl (fun c2 => ?_) (fun c2 => ?_)
  · skip
    refine w_const rfl ?_
    exact wp_iret (z := true) rfl (fun _ => by first | exact Or.inl rfl | exact Or.inr rfl | (rcases (by omega : (0 : Int32).toInt = 0 ∨ (0 : Int32).toInt = 1) with h8 | h8; exact Or.inl (ti_eq h8); exact Or.inr (ti_eq h8))) ⟨rfl, ⟨_, rfl, by omega⟩⟩
  · skip
    refine w_aload rfl rfl ?_
    refine c_getR (t := some 2) rfl rfl rfl rfl rfl ?_
    refine w_iload rfl rfl ?_
    refine c_cald rfl rfl (by omega) (fun x3 ex3 => ?_)
    refine w_const rfl ?_
    refine w_ic_gt rfl (fun c4 => ?_) (fun c4 => ?_)
    · skip
      refine w_const rfl ?_
      exact wp_iret (z := true) rfl (fun _ => by first | exact Or.inl rfl | exact Or.inr rfl | (rcases (by omega : (0 : Int32).toInt = 0 ∨ (0 : Int32).toInt = 1) with h8 | h8; exact Or.inl (ti_eq h8); exact Or.inr (ti_eq h8))) ⟨rfl, ⟨_, rfl, by omega⟩⟩
    · skip
      refine w_const rfl ?_
      refine w_goto rfl ?_
      exact wp_iret (z := true) rfl (fun _ => by first | exact Or.inl rfl | exact Or.inr rfl | (rcases (by omega : (1 : Int32).toInt = 0 ∨ (1 : Int32).toInt = 1) with h8 | h8; exact Or.inl (ti_eq h8); exact Or.inr (ti_eq h8))) ⟨rfl, ⟨_, rfl, by omega⟩⟩
set_option maxRecDepth 4000 in
theorem s_X8_isDigit {K : Nat} (a : Nat → Nat → Int32) (b : Nat → Nat → Int64) (v : Nat → Option Nat) (i : Int32) (hR : RC K a) (hi : 0 ≤ i.toInt ∧ i.toInt < 1000) : f_call mtC 1 88 [.inr (.inr (some 1)), .inl i] (cH a b v) (fun v9 h' => h' = cH a b v ∧ ∃ x : Int32, v9 = some (.inl x) ∧ (x.toInt = 0 ∨ x.toInt = 1)) := by
  refine f_call_of (d0 := 0) rfl (Nat.le_of_ble_eq_true rfl) (fun d hd => ?_)
  show f_wp _ (0, [some (.inr (.inr (some 1))), some (.inl i)], [], cH a b v) _
  have l0 : (0 : Int32).toInt = 0 := rfl
  have l1 : (1 : Int32).toInt = 1 := rfl
  have l48 : (48 : Int32).toInt = 48 := rfl
  have l57 : (57 : Int32).toInt = 57 := rfl
  refine w_aload rfl rfl ?_
  refine c_getR (t := some 2) rfl rfl rfl rfl rfl ?_
  refine w_iload rfl rfl ?_
  refine c_cald rfl rfl (by omega) (fun x1 ex1 => ?_)
  refine w_const rfl ?_
  refine w_ic_lt rfl (fun c2 => ?_) (fun c2 => ?_)
  · skip
    refine w_const rfl ?_
    exact wp_iret (z := true) rfl (fun _ => by first | exact Or.inl rfl | exact Or.inr rfl | (rcases (by omega : (0 : Int32).toInt = 0 ∨ (0 : Int32).toInt = 1) with h8 | h8; exact Or.inl (ti_eq h8); exact Or.inr (ti_eq h8))) ⟨rfl, ⟨_, rfl, by omega⟩⟩
  · skip
    refine w_aload rfl rfl ?_
    refine c_getR (t := some 2) rfl rfl rfl rfl rfl ?_
    refine w_iload rfl rfl ?_
    refine c_cald rfl rfl (by omega) (fun x3 ex3 => ?_)
    refine w_const rfl ?_
    refine w_ic_gt rfl (fun c4 => ?_) (fun c4 => ?_)
    · skip
      refine w_const rfl ?_
      exact wp_iret (z := true) rfl (fun _ => by first | exact Or.inl rfl | exact Or.inr rfl | (rcases (by omega : (0 : Int32).toInt = 0 ∨ (0 : Int32).toInt = 1) with h8 | h8; exact Or.inl (ti_eq h8); exact Or.inr (ti_eq h8))) ⟨rfl, ⟨_, rfl, by omega⟩⟩
    · skip
      refine w_const rfl ?_
      refine w_goto rfl ?_
      exact wp_iret (z := true) rfl (fun _ => by first | exact Or.inl rfl | exact Or.inr rfl | (rcases (by omega : (1 : Int32).toInt = 0 ∨ (1 : Int32).toInt = 1) with h8 | h8; exact Or.inl (ti_eq h8); exact Or.inr (ti_eq h8))) ⟨rfl, ⟨_, rfl, by omega⟩⟩
set_option maxRecDepth 4000 in
theorem s_X8_cutWord {K : Nat} (a : Nat → Nat → Int32) (b : Nat → Nat → Int64) (v : Nat → Option Nat) (i : Int32) (hR : RC K a) (hi : 0 ≤ i.toInt ∧ i.toInt < 1000) : f_call mtC 2 89 [.inr (.inr (some 1)), .inl i] (cH a b v) (fun v9 h' => ∃ (a' : Nat → Nat → Int32) (b' : Nat → Nat → Int64), h' = cH a' b' v ∧ RC K a' ∧ (FR [1, 3, 4] a a' ∧ True) ∧ ∃ x : Int32, v9 = some (.inl x) ∧ (0 ≤ x.toInt ∧ x.toInt ≤ 1000)) := by
  refine f_call_of (d0 := 1) rfl (Nat.le_of_ble_eq_true rfl) (fun d hd => ?_)
  show f_wp _ (0, [some (.inr (.inr (some 1))), some (.inl i), none, none, none], [], cH a b v) _
  have l1 : (1 : Int32).toInt = 1 := rfl
  have l2 : (2 : Int32).toInt = 2 := rfl
  have l8 : (8 : Int32).toInt = 8 := rfl
  refine w_const rfl ?_
  refine w_lstore (lo' := [some (.inr (.inr (some 1))), some (.inl i), some (.inr (.inl 0)), none, none]) rfl rfl ?_
  refine w_iload rfl rfl ?_
  refine w_istore (lo' := [some (.inr (.inr (some 1))), some (.inl i), some (.inr (.inl 0)), none, some (.inl i)]) rfl rfl ?_
  have loop5 : ∀ (ms9 : Nat) (k : Int64) (m : Int32) , (1000 - m.toInt).toNat = ms9 → (0 ≤ m.toInt ∧ m.toInt ≤ 1000) → f_wp (f_code (t_X8_cutWord (f_ev mtC d))) (5, [some (.inr (.inr (some 1))), some (.inl i), some (.inr (.inl k)), none, some (.inl m)], [], cH a b v) (fun v9 h' => ∃ (a' : Nat → Nat → Int32) (b' : Nat → Nat → Int64), h' = cH a' b' v ∧ RC K a' ∧ (FR [1, 3, 4] a a' ∧ True) ∧ ∃ x : Int32, v9 = some (.inl x) ∧ (0 ≤ x.toInt ∧ x.toInt ≤ 1000)) := by
    intro ms9
    induction ms9 using Nat.strongRecOn with
    | _ ms5 ih5 =>
      intro k m  hm5 hm
      refine w_iload rfl rfl ?_
      refine w_aload rfl rfl ?_
      refine c_getI rfl rfl rfl rfl ?_
      have q1 : 0 ≤ (a 1 6).toInt ∧ (a 1 6).toInt ≤ 1000 := hR 1 6
      refine w_ic_ge rfl (fun c2 => ?_) (fun c2 => ?_)
      · skip
        refine w_aload rfl rfl ?_
        refine w_iload rfl rfl ?_
        refine w_iload rfl rfl ?_
        first | refine w_isub rfl (by omega) (fun x3 tx3 => ?_) | refine w_iiU rfl (fun x3 tx3 => ?_)
        refine w_const rfl ?_
        refine w_ic_gt rfl (fun c4 => ?_) (fun c4 => ?_)
        · skip
          refine w_const rfl ?_
          refine w_iload rfl rfl ?_
          refine w_lload rfl rfl ?_
          refine w_invV (rest := []) rfl rfl rfl rfl rfl (Nat.le_of_ble_eq_true rfl) rfl (by omega) (s_X8_keep (K := K) a b v  1 i k hR  ) (fun z5 h9 hq6 => ?_)
          obtain ⟨a7, b8, rfl, ha7, fa7, rfl⟩ := hq6
          show f_wp _ (61, [some (.inr (.inr (some 1))), some (.inl i), some (.inr (.inl k)), none, some (.inl m)], [], cH a7 b8 v) _
          refine w_iload rfl rfl ?_
          exact wp_iret (z := false) rfl (fun h9 => by cases h9) ⟨a7, b8, rfl, ha7, ⟨FR.tr (FR.rf) (FR.sub fa7.1 (by first | exact (fun _ h9 => h9) | decide | (intro c9 h9; simp only [List.mem_cons, List.not_mem_nil, or_false] at h9 ⊢; omega) | (intro c9 h9; simp at h9; simp [cA]; omega) | (intro c9 h9; simp at h9; simp [cB]; omega) | (intro c9 h9; simp [cA] at h9; simp [cB]; omega))), trivial⟩, ⟨_, rfl, by omega⟩⟩
        · skip
          refine w_const rfl ?_
          refine w_goto rfl ?_
          refine w_iload rfl rfl ?_
          refine w_lload rfl rfl ?_
          refine w_invV (rest := []) rfl rfl rfl rfl rfl (Nat.le_of_ble_eq_true rfl) rfl (by omega) (s_X8_keep (K := K) a b v  2 i k hR  ) (fun z9 h9 hq10 => ?_)
          obtain ⟨a11, b12, rfl, ha11, fa11, rfl⟩ := hq10
          show f_wp _ (61, [some (.inr (.inr (some 1))), some (.inl i), some (.inr (.inl k)), none, some (.inl m)], [], cH a11 b12 v) _
          refine w_iload rfl rfl ?_
          exact wp_iret (z := false) rfl (fun h9 => by cases h9) ⟨a11, b12, rfl, ha11, ⟨FR.tr (FR.rf) (FR.sub fa11.1 (by first | exact (fun _ h9 => h9) | decide | (intro c9 h9; simp only [List.mem_cons, List.not_mem_nil, or_false] at h9 ⊢; omega) | (intro c9 h9; simp at h9; simp [cA]; omega) | (intro c9 h9; simp at h9; simp [cB]; omega) | (intro c9 h9; simp [cA] at h9; simp [cB]; omega))), trivial⟩, ⟨_, rfl, by omega⟩⟩
      · skip
        refine w_aload rfl rfl ?_
        refine w_iload rfl rfl ?_
        refine w_invV (rest := []) rfl rfl rfl rfl rfl (Nat.le_of_ble_eq_true rfl) rfl (by omega) (s_X8_isLetter (K := K) a b v  m hR  (by omega)) (fun z13 h9 hq14 => ?_)
        obtain ⟨rfl, x15, rfl, px15⟩ := hq14
        show f_wp _ (20, [some (.inr (.inr (some 1))), some (.inl i), some (.inr (.inl k)), none, some (.inl m)], [.inl x15], cH a b v) _
        refine w_if_eq rfl (fun c16 => ?_) (fun c16 => ?_)
        · skip
          refine w_aload rfl rfl ?_
          refine w_iload rfl rfl ?_
          refine w_iload rfl rfl ?_
          first | refine w_isub rfl (by omega) (fun x17 tx17 => ?_) | refine w_iiU rfl (fun x17 tx17 => ?_)
          refine w_const rfl ?_
          refine w_ic_gt rfl (fun c18 => ?_) (fun c18 => ?_)
          · skip
            refine w_const rfl ?_
            refine w_iload rfl rfl ?_
            refine w_lload rfl rfl ?_
            refine w_invV (rest := []) rfl rfl rfl rfl rfl (Nat.le_of_ble_eq_true rfl) rfl (by omega) (s_X8_keep (K := K) a b v  1 i k hR  ) (fun z19 h9 hq20 => ?_)
            obtain ⟨a21, b22, rfl, ha21, fa21, rfl⟩ := hq20
            show f_wp _ (61, [some (.inr (.inr (some 1))), some (.inl i), some (.inr (.inl k)), none, some (.inl m)], [], cH a21 b22 v) _
            refine w_iload rfl rfl ?_
            exact wp_iret (z := false) rfl (fun h9 => by cases h9) ⟨a21, b22, rfl, ha21, ⟨FR.tr (FR.rf) (FR.sub fa21.1 (by first | exact (fun _ h9 => h9) | decide | (intro c9 h9; simp only [List.mem_cons, List.not_mem_nil, or_false] at h9 ⊢; omega) | (intro c9 h9; simp at h9; simp [cA]; omega) | (intro c9 h9; simp at h9; simp [cB]; omega) | (intro c9 h9; simp [cA] at h9; simp [cB]; omega))), trivial⟩, ⟨_, rfl, by omega⟩⟩
          · skip
            refine w_const rfl ?_
            refine w_goto rfl ?_
            refine w_iload rfl rfl ?_
            refine w_lload rfl rfl ?_
            refine w_invV (rest := []) rfl rfl rfl rfl rfl (Nat.le_of_ble_eq_true rfl) rfl (by omega) (s_X8_keep (K := K) a b v  2 i k hR  ) (fun z23 h9 hq24 => ?_)
            obtain ⟨a25, b26, rfl, ha25, fa25, rfl⟩ := hq24
            show f_wp _ (61, [some (.inr (.inr (some 1))), some (.inl i), some (.inr (.inl k)), none, some (.inl m)], [], cH a25 b26 v) _
            refine w_iload rfl rfl ?_
            exact wp_iret (z := false) rfl (fun h9 => by cases h9) ⟨a25, b26, rfl, ha25, ⟨FR.tr (FR.rf) (FR.sub fa25.1 (by first | exact (fun _ h9 => h9) | decide | (intro c9 h9; simp only [List.mem_cons, List.not_mem_nil, or_false] at h9 ⊢; omega) | (intro c9 h9; simp at h9; simp [cA]; omega) | (intro c9 h9; simp at h9; simp [cB]; omega) | (intro c9 h9; simp [cA] at h9; simp [cB]; omega))), trivial⟩, ⟨_, rfl, by omega⟩⟩
        · skip
          refine w_lload rfl rfl ?_
          refine w_aload rfl rfl ?_
          refine c_getR (t := some 2) rfl rfl rfl rfl rfl ?_
          refine w_iload rfl rfl ?_
          refine c_cald rfl rfl (by omega) (fun x27 ex27 => ?_)
          refine w_invS (rest := []) rfl (Nat.le_of_ble_eq_true rfl) rfl (Nat.le_of_ble_eq_true rfl) rfl (by omega) (s_X11_keyWith (K := K) a b v  k x27   ) (fun z28 h9 hq29 => ?_)
          obtain ⟨rfl, y30, rfl, py30⟩ := hq29
          show f_wp _ (34, [some (.inr (.inr (some 1))), some (.inl i), some (.inr (.inl k)), none, some (.inl m)], [.inr (.inl y30)], cH a b v) _
          refine w_lstore (lo' := [some (.inr (.inr (some 1))), some (.inl i), some (.inr (.inl y30)), none, some (.inl m)]) rfl rfl ?_
          refine w_iinc (lo' := fun z9 => [some (.inr (.inr (some 1))), some (.inl i), some (.inr (.inl y30)), none, some (.inl z9)]) rfl rfl (fun _ => rfl) (by omega) (fun x31 tx31 => ?_)
          refine w_goto rfl ?_
          exact ih5 (1000 - x31.toInt).toNat (by omega) y30 x31 rfl  (by omega)
  exact loop5 _ 0 i rfl  (by omega)
set_option maxRecDepth 4000 in
theorem s_X8_cutNumber {K : Nat} (a : Nat → Nat → Int32) (b : Nat → Nat → Int64) (v : Nat → Option Nat) (i : Int32) (hR : RC K a) (hi : 0 ≤ i.toInt ∧ i.toInt < 1000) : f_call mtC 2 90 [.inr (.inr (some 1)), .inl i] (cH a b v) (fun v9 h' => ∃ (a' : Nat → Nat → Int32) (b' : Nat → Nat → Int64), h' = cH a' b' v ∧ RC K a' ∧ (FR [1, 3, 4] a a' ∧ True) ∧ ∃ x : Int32, v9 = some (.inl x) ∧ (0 ≤ x.toInt ∧ x.toInt ≤ 1000)) := by
  refine f_call_of (d0 := 1) rfl (Nat.le_of_ble_eq_true rfl) (fun d hd => ?_)
  show f_wp _ (0, [some (.inr (.inr (some 1))), some (.inl i), none, none, none], [], cH a b v) _
  have l1 : (1 : Int32).toInt = 1 := rfl
  have l3 : (3 : Int32).toInt = 3 := rfl
  have l4 : (4 : Int32).toInt = 4 := rfl
  have l48 : (48 : Int32).toInt = 48 := rfl
  refine w_const rfl ?_
  refine w_lstore (lo' := [some (.inr (.inr (some 1))), some (.inl i), some (.inr (.inl 0)), none, none]) rfl rfl ?_
  refine w_iload rfl rfl ?_
  refine w_istore (lo' := [some (.inr (.inr (some 1))), some (.inl i), some (.inr (.inl 0)), none, some (.inl i)]) rfl rfl ?_
  have loop5 : ∀ (ms9 : Nat) (k : Int64) (m : Int32) , (1000 - m.toInt).toNat = ms9 → (0 ≤ m.toInt ∧ m.toInt ≤ 1000) → f_wp (f_code (t_X8_cutNumber (f_ev mtC d))) (5, [some (.inr (.inr (some 1))), some (.inl i), some (.inr (.inl k)), none, some (.inl m)], [], cH a b v) (fun v9 h' => ∃ (a' : Nat → Nat → Int32) (b' : Nat → Nat → Int64), h' = cH a' b' v ∧ RC K a' ∧ (FR [1, 3, 4] a a' ∧ True) ∧ ∃ x : Int32, v9 = some (.inl x) ∧ (0 ≤ x.toInt ∧ x.toInt ≤ 1000)) := by
    intro ms9
    induction ms9 using Nat.strongRecOn with
    | _ ms5 ih5 =>
      intro k m  hm5 hm
      refine w_iload rfl rfl ?_
      refine w_aload rfl rfl ?_
      refine c_getI rfl rfl rfl rfl ?_
      have q1 : 0 ≤ (a 1 6).toInt ∧ (a 1 6).toInt ≤ 1000 := hR 1 6
      refine w_ic_ge rfl (fun c2 => ?_) (fun c2 => ?_)
      · skip
        refine w_aload rfl rfl ?_
        refine w_iload rfl rfl ?_
        refine w_iload rfl rfl ?_
        first | refine w_isub rfl (by omega) (fun x3 tx3 => ?_) | refine w_iiU rfl (fun x3 tx3 => ?_)
        refine w_const rfl ?_
        refine w_ic_gt rfl (fun c4 => ?_) (fun c4 => ?_)
        · skip
          refine w_const rfl ?_
          refine w_iload rfl rfl ?_
          refine w_lload rfl rfl ?_
          refine w_invV (rest := []) rfl rfl rfl rfl rfl (Nat.le_of_ble_eq_true rfl) rfl (by omega) (s_X8_keep (K := K) a b v  1 i k hR  ) (fun z5 h9 hq6 => ?_)
          obtain ⟨a7, b8, rfl, ha7, fa7, rfl⟩ := hq6
          show f_wp _ (66, [some (.inr (.inr (some 1))), some (.inl i), some (.inr (.inl k)), none, some (.inl m)], [], cH a7 b8 v) _
          refine w_iload rfl rfl ?_
          exact wp_iret (z := false) rfl (fun h9 => by cases h9) ⟨a7, b8, rfl, ha7, ⟨FR.tr (FR.rf) (FR.sub fa7.1 (by first | exact (fun _ h9 => h9) | decide | (intro c9 h9; simp only [List.mem_cons, List.not_mem_nil, or_false] at h9 ⊢; omega) | (intro c9 h9; simp at h9; simp [cA]; omega) | (intro c9 h9; simp at h9; simp [cB]; omega) | (intro c9 h9; simp [cA] at h9; simp [cB]; omega))), trivial⟩, ⟨_, rfl, by omega⟩⟩
        · skip
          refine w_const rfl ?_
          refine w_goto rfl ?_
          refine w_iload rfl rfl ?_
          refine w_lload rfl rfl ?_
          refine w_invV (rest := []) rfl rfl rfl rfl rfl (Nat.le_of_ble_eq_true rfl) rfl (by omega) (s_X8_keep (K := K) a b v  3 i k hR  ) (fun z9 h9 hq10 => ?_)
          obtain ⟨a11, b12, rfl, ha11, fa11, rfl⟩ := hq10
          show f_wp _ (66, [some (.inr (.inr (some 1))), some (.inl i), some (.inr (.inl k)), none, some (.inl m)], [], cH a11 b12 v) _
          refine w_iload rfl rfl ?_
          exact wp_iret (z := false) rfl (fun h9 => by cases h9) ⟨a11, b12, rfl, ha11, ⟨FR.tr (FR.rf) (FR.sub fa11.1 (by first | exact (fun _ h9 => h9) | decide | (intro c9 h9; simp only [List.mem_cons, List.not_mem_nil, or_false] at h9 ⊢; omega) | (intro c9 h9; simp at h9; simp [cA]; omega) | (intro c9 h9; simp at h9; simp [cB]; omega) | (intro c9 h9; simp [cA] at h9; simp [cB]; omega))), trivial⟩, ⟨_, rfl, by omega⟩⟩
      · skip
        refine w_aload rfl rfl ?_
        refine w_iload rfl rfl ?_
        refine w_invV (rest := []) rfl rfl rfl rfl rfl (Nat.le_of_ble_eq_true rfl) rfl (by omega) (s_X8_isDigit (K := K) a b v  m hR  (by omega)) (fun z13 h9 hq14 => ?_)
        obtain ⟨rfl, x15, rfl, px15⟩ := hq14
        show f_wp _ (20, [some (.inr (.inr (some 1))), some (.inl i), some (.inr (.inl k)), none, some (.inl m)], [.inl x15], cH a b v) _
        refine w_if_eq rfl (fun c16 => ?_) (fun c16 => ?_)
        · skip
          refine w_aload rfl rfl ?_
          refine w_iload rfl rfl ?_
          refine w_iload rfl rfl ?_
          first | refine w_isub rfl (by omega) (fun x17 tx17 => ?_) | refine w_iiU rfl (fun x17 tx17 => ?_)
          refine w_const rfl ?_
          refine w_ic_gt rfl (fun c18 => ?_) (fun c18 => ?_)
          · skip
            refine w_const rfl ?_
            refine w_iload rfl rfl ?_
            refine w_lload rfl rfl ?_
            refine w_invV (rest := []) rfl rfl rfl rfl rfl (Nat.le_of_ble_eq_true rfl) rfl (by omega) (s_X8_keep (K := K) a b v  1 i k hR  ) (fun z19 h9 hq20 => ?_)
            obtain ⟨a21, b22, rfl, ha21, fa21, rfl⟩ := hq20
            show f_wp _ (66, [some (.inr (.inr (some 1))), some (.inl i), some (.inr (.inl k)), none, some (.inl m)], [], cH a21 b22 v) _
            refine w_iload rfl rfl ?_
            exact wp_iret (z := false) rfl (fun h9 => by cases h9) ⟨a21, b22, rfl, ha21, ⟨FR.tr (FR.rf) (FR.sub fa21.1 (by first | exact (fun _ h9 => h9) | decide | (intro c9 h9; simp only [List.mem_cons, List.not_mem_nil, or_false] at h9 ⊢; omega) | (intro c9 h9; simp at h9; simp [cA]; omega) | (intro c9 h9; simp at h9; simp [cB]; omega) | (intro c9 h9; simp [cA] at h9; simp [cB]; omega))), trivial⟩, ⟨_, rfl, by omega⟩⟩
          · skip
            refine w_const rfl ?_
            refine w_goto rfl ?_
            refine w_iload rfl rfl ?_
            refine w_lload rfl rfl ?_
            refine w_invV (rest := []) rfl rfl rfl rfl rfl (Nat.le_of_ble_eq_true rfl) rfl (by omega) (s_X8_keep (K := K) a b v  3 i k hR  ) (fun z23 h9 hq24 => ?_)
            obtain ⟨a25, b26, rfl, ha25, fa25, rfl⟩ := hq24
            show f_wp _ (66, [some (.inr (.inr (some 1))), some (.inl i), some (.inr (.inl k)), none, some (.inl m)], [], cH a25 b26 v) _
            refine w_iload rfl rfl ?_
            exact wp_iret (z := false) rfl (fun h9 => by cases h9) ⟨a25, b26, rfl, ha25, ⟨FR.tr (FR.rf) (FR.sub fa25.1 (by first | exact (fun _ h9 => h9) | decide | (intro c9 h9; simp only [List.mem_cons, List.not_mem_nil, or_false] at h9 ⊢; omega) | (intro c9 h9; simp at h9; simp [cA]; omega) | (intro c9 h9; simp at h9; simp [cB]; omega) | (intro c9 h9; simp [cA] at h9; simp [cB]; omega))), trivial⟩, ⟨_, rfl, by omega⟩⟩
        · skip
          refine w_lload rfl rfl ?_
          refine w_const rfl ?_
          refine w_llE rfl (fun y27 ty27 => ?_)
          refine w_aload rfl rfl ?_
          refine c_getR (t := some 2) rfl rfl rfl rfl rfl ?_
          refine w_iload rfl rfl ?_
          refine c_cald rfl rfl (by omega) (fun x28 ex28 => ?_)
          refine w_const rfl ?_
          first | refine w_isub rfl (by omega) (fun x29 tx29 => ?_) | refine w_iiU rfl (fun x29 tx29 => ?_)
          refine w_i2lE rfl (fun y30 ty30 => ?_)
          refine w_llE rfl (fun y31 ty31 => ?_)
          refine w_lstore (lo' := [some (.inr (.inr (some 1))), some (.inl i), some (.inr (.inl y31)), none, some (.inl m)]) rfl rfl ?_
          refine w_iinc (lo' := fun z9 => [some (.inr (.inr (some 1))), some (.inl i), some (.inr (.inl y31)), none, some (.inl z9)]) rfl rfl (fun _ => rfl) (by omega) (fun x32 tx32 => ?_)
          refine w_goto rfl ?_
          exact ih5 (1000 - x32.toInt).toNat (by omega) y31 x32 rfl  (by omega)
  exact loop5 _ 0 i rfl  (by omega)
set_option maxRecDepth 4000 in
theorem s_X8_cut {K : Nat} (a : Nat → Nat → Int32) (b : Nat → Nat → Int64) (v : Nat → Option Nat) (i : Int32) (hR : RC K a) (hi : 0 ≤ i.toInt ∧ i.toInt < 1000) : f_call mtC 5 86 [.inr (.inr (some 1)), .inl i] (cH a b v) (fun v9 h' => ∃ (a' : Nat → Nat → Int32) (b' : Nat → Nat → Int64), h' = cH a' b' v ∧ RC K a' ∧ (FR [1, 3, 4] a a' ∧ True) ∧ ∃ x : Int32, v9 = some (.inl x) ∧ (0 ≤ x.toInt ∧ x.toInt ≤ 1000)) := by
  refine f_call_of (d0 := 4) rfl (Nat.le_of_ble_eq_true rfl) (fun d hd => ?_)
  show f_wp _ (0, [some (.inr (.inr (some 1))), some (.inl i)], [], cH a b v) _
  have l1 : (1 : Int32).toInt = 1 := rfl
  have l4 : (4 : Int32).toInt = 4 := rfl
  refine w_aload rfl rfl ?_
  refine w_iload rfl rfl ?_
  refine w_invV (rest := []) rfl rfl rfl rfl rfl (Nat.le_of_ble_eq_true rfl) rfl (by omega) (s_X8_isLetter (K := K) a b v  i hR  (by omega)) (fun z1 h9 hq2 => ?_)
  obtain ⟨rfl, x3, rfl, px3⟩ := hq2
  show f_wp _ (5, [some (.inr (.inr (some 1))), some (.inl i)], [.inl x3], cH a b v) _
  refine w_if_eq rfl (fun c4 => ?_) (fun c4 => ?_)
  · skip
    refine w_aload rfl rfl ?_
    refine w_iload rfl rfl ?_
    refine w_invV (rest := []) rfl rfl rfl rfl rfl (Nat.le_of_ble_eq_true rfl) rfl (by omega) (s_X8_isDigit (K := K) a b v  i hR  (by omega)) (fun z5 h9 hq6 => ?_)
    obtain ⟨rfl, x7, rfl, px7⟩ := hq6
    show f_wp _ (19, [some (.inr (.inr (some 1))), some (.inl i)], [.inl x7], cH a b v) _
    refine w_if_eq rfl (fun c8 => ?_) (fun c8 => ?_)
    · skip
      refine w_aload rfl rfl ?_
      refine w_const rfl ?_
      refine w_aload rfl rfl ?_
      refine c_getR (t := some 2) rfl rfl rfl rfl rfl ?_
      refine w_iload rfl rfl ?_
      refine c_cald rfl rfl (by omega) (fun x9 ex9 => ?_)
      refine c_invW (rest := [.inr (.inr (some 1))]) rfl rfl (rfl) rfl (Nat.le_of_ble_eq_true rfl) rfl (by omega) (s_J0_indexOf_0f7a4 (K := K) a b v  x9   ) (fun z10 h9 hq11 => ?_)
      obtain ⟨rfl, x12, rfl, px12⟩ := hq11
      show f_wp _ (40, [some (.inr (.inr (some 1))), some (.inl i)], [.inl x12, .inr (.inr (some 1))], cH a b v) _
      refine w_if_lt rfl (fun c13 => ?_) (fun c13 => ?_)
      · skip
        refine w_const rfl ?_
        refine w_iload rfl rfl ?_
        refine w_aload rfl rfl ?_
        refine c_getR (t := some 2) rfl rfl rfl rfl rfl ?_
        refine w_iload rfl rfl ?_
        refine c_cald rfl rfl (by omega) (fun x14 ex14 => ?_)
        refine w_i2lE rfl (fun y15 ty15 => ?_)
        refine w_invV (rest := []) rfl rfl rfl rfl rfl (Nat.le_of_ble_eq_true rfl) rfl (by omega) (s_X8_keep (K := K) a b v  1 i y15 hR  ) (fun z16 h9 hq17 => ?_)
        obtain ⟨a18, b19, rfl, ha18, fa18, rfl⟩ := hq17
        show f_wp _ (59, [some (.inr (.inr (some 1))), some (.inl i)], [], cH a18 b19 v) _
        refine w_iload rfl rfl ?_
        refine w_const rfl ?_
        first | refine w_iadd rfl (by omega) (fun x20 tx20 => ?_) | refine w_iiU rfl (fun x20 tx20 => ?_)
        exact wp_iret (z := false) rfl (fun h9 => by cases h9) ⟨a18, b19, rfl, ha18, ⟨FR.tr (FR.rf) (FR.sub fa18.1 (by first | exact (fun _ h9 => h9) | decide | (intro c9 h9; simp only [List.mem_cons, List.not_mem_nil, or_false] at h9 ⊢; omega) | (intro c9 h9; simp at h9; simp [cA]; omega) | (intro c9 h9; simp at h9; simp [cB]; omega) | (intro c9 h9; simp [cA] at h9; simp [cB]; omega))), trivial⟩, ⟨_, rfl, by omega⟩⟩
      · skip
        refine w_const rfl ?_
        refine w_goto rfl ?_
        refine w_iload rfl rfl ?_
        refine w_aload rfl rfl ?_
        refine c_getR (t := some 2) rfl rfl rfl rfl rfl ?_
        refine w_iload rfl rfl ?_
        refine c_cald rfl rfl (by omega) (fun x21 ex21 => ?_)
        refine w_i2lE rfl (fun y22 ty22 => ?_)
        refine w_invV (rest := []) rfl rfl rfl rfl rfl (Nat.le_of_ble_eq_true rfl) rfl (by omega) (s_X8_keep (K := K) a b v  4 i y22 hR  ) (fun z23 h9 hq24 => ?_)
        obtain ⟨a25, b26, rfl, ha25, fa25, rfl⟩ := hq24
        show f_wp _ (59, [some (.inr (.inr (some 1))), some (.inl i)], [], cH a25 b26 v) _
        refine w_iload rfl rfl ?_
        refine w_const rfl ?_
        first | refine w_iadd rfl (by omega) (fun x27 tx27 => ?_) | refine w_iiU rfl (fun x27 tx27 => ?_)
        exact wp_iret (z := false) rfl (fun h9 => by cases h9) ⟨a25, b26, rfl, ha25, ⟨FR.tr (FR.rf) (FR.sub fa25.1 (by first | exact (fun _ h9 => h9) | decide | (intro c9 h9; simp only [List.mem_cons, List.not_mem_nil, or_false] at h9 ⊢; omega) | (intro c9 h9; simp at h9; simp [cA]; omega) | (intro c9 h9; simp at h9; simp [cB]; omega) | (intro c9 h9; simp [cA] at h9; simp [cB]; omega))), trivial⟩, ⟨_, rfl, by omega⟩⟩
    · skip
      refine w_aload rfl rfl ?_
      refine w_iload rfl rfl ?_
      refine w_invV (rest := []) rfl rfl rfl rfl rfl (Nat.le_of_ble_eq_true rfl) rfl (by omega) (s_X8_cutNumber (K := K) a b v  i hR  (by omega)) (fun z28 h9 hq29 => ?_)
      obtain ⟨a30, b31, rfl, ha30, fa30, x32, rfl, px32⟩ := hq29
      show f_wp _ (27, [some (.inr (.inr (some 1))), some (.inl i)], [.inl x32], cH a30 b31 v) _
      exact wp_iret (z := false) rfl (fun h9 => by cases h9) ⟨a30, b31, rfl, ha30, ⟨FR.tr (FR.rf) (FR.sub fa30.1 (by first | exact (fun _ h9 => h9) | decide | (intro c9 h9; simp only [List.mem_cons, List.not_mem_nil, or_false] at h9 ⊢; omega) | (intro c9 h9; simp at h9; simp [cA]; omega) | (intro c9 h9; simp at h9; simp [cB]; omega) | (intro c9 h9; simp [cA] at h9; simp [cB]; omega))), trivial⟩, ⟨_, rfl, by omega⟩⟩
  · skip
    refine w_aload rfl rfl ?_
    refine w_iload rfl rfl ?_
    refine w_invV (rest := []) rfl rfl rfl rfl rfl (Nat.le_of_ble_eq_true rfl) rfl (by omega) (s_X8_cutWord (K := K) a b v  i hR  (by omega)) (fun z33 h9 hq34 => ?_)
    obtain ⟨a35, b36, rfl, ha35, fa35, x37, rfl, px37⟩ := hq34
    show f_wp _ (13, [some (.inr (.inr (some 1))), some (.inl i)], [.inl x37], cH a35 b36 v) _
    exact wp_iret (z := false) rfl (fun h9 => by cases h9) ⟨a35, b36, rfl, ha35, ⟨FR.tr (FR.rf) (FR.sub fa35.1 (by first | exact (fun _ h9 => h9) | decide | (intro c9 h9; simp only [List.mem_cons, List.not_mem_nil, or_false] at h9 ⊢; omega) | (intro c9 h9; simp at h9; simp [cA]; omega) | (intro c9 h9; simp at h9; simp [cB]; omega) | (intro c9 h9; simp [cA] at h9; simp [cB]; omega))), trivial⟩, ⟨_, rfl, by omega⟩⟩
set_option maxHeartbeats 2000000 in
set_option maxRecDepth 4000 in
theorem s_X8_advance {K : Nat} (a : Nat → Nat → Int32) (b : Nat → Nat → Int64) (v : Nat → Option Nat)  (hR : RC K a)  : f_call mtC 1 84 [.inr (.inr (some 1))] (cH a b v) (fun v9 h' => ∃ (a' : Nat → Nat → Int32) (b' : Nat → Nat → Int64) (v' : Nat → Option Nat), h' = cH a' b' v' ∧ RC K a' ∧ (FR [1] a a' ∧ ((∀ i, i ∉ [2] → v' i = v i) ∧ f_wdb (v' 2) = true) ∧ True) ∧ v9 = none) := by
  refine f_call_of (d0 := 0) rfl (Nat.le_of_ble_eq_true rfl) (fun d hd => ?_)
  show f_wp _ (0, [some (.inr (.inr (some 1))), none], [], cH a b v) _
  have l0 : (0 : Int32).toInt = 0 := rfl
  have l1 : (1 : Int32).toInt = 1 := rfl
  have l2 : (2 : Int32).toInt = 2 := rfl
  have l4 : (4 : Int32).toInt = 4 := rfl
  have l5 : (5 : Int32).toInt = 5 := rfl
  have l6 : (6 : Int32).toInt = 6 := rfl
  have l8 : (8 : Int32).toInt = 8 := rfl
  have l16 : (16 : Int32).toInt = 16 := rfl
  have l31 : (31 : Int32).toInt = 31 := rfl
  have l384 : (384 : Int32).toInt = 384 := rfl
  have l1000 : (1000 : Int32).toInt = 1000 := rfl
  refine w_aload rfl rfl ?_
  refine w_aload rfl rfl ?_
  refine c_getR (t := some 3) rfl rfl rfl rfl rfl ?_
  refine w_aload rfl rfl ?_
  refine c_getI rfl rfl rfl rfl ?_
  have q1 : 0 ≤ (a 1 5).toInt ∧ (a 1 5).toInt ≤ 1000 := hR 1 5
  refine c_iald rfl rfl (by omega) (fun x2 ex2 => ?_)
  refine c_putI (z := false) rfl rfl rfl rfl (by first | (intro h9; cases h9; done) | (intro _; first | exact Or.inl rfl | exact Or.inr rfl | assumption | (rcases (by omega : x2.toInt = 0 ∨ x2.toInt = 1) with h8 | h8; exact Or.inl (ti_eq h8); exact Or.inr (ti_eq h8)))) (fun a3 ea3 => ?_)
  have ha3 : RC K a3 := RC.up hR ea3 (lc_any _ (by omega))
  have ua3 : a3 1 7 = x2 := by rw [ea3, mU_same]
  have wa3 := congrArg Int32.toInt ua3
  have ra3_27 : (a3 1 5).toInt = (a 1 5).toInt := by rw [ea3, mU_slot (by decide)]
  refine w_aload rfl rfl ?_
  refine w_aload rfl rfl ?_
  refine c_getR (t := some 4) rfl rfl rfl rfl rfl ?_
  refine w_aload rfl rfl ?_
  refine c_getI rfl rfl rfl rfl ?_
  have q4 : 0 ≤ (a3 1 5).toInt ∧ (a3 1 5).toInt ≤ 1000 := ha3 1 5
  refine c_iald rfl rfl (by omega) (fun x5 ex5 => ?_)
  refine c_putI (z := false) rfl rfl rfl rfl (by first | (intro h9; cases h9; done) | (intro _; first | exact Or.inl rfl | exact Or.inr rfl | assumption | (rcases (by omega : x5.toInt = 0 ∨ x5.toInt = 1) with h8 | h8; exact Or.inl (ti_eq h8); exact Or.inr (ti_eq h8)))) (fun a6 ea6 => ?_)
  have ha6 : RC K a6 := RC.up ha3 ea6 (lc_any _ (by omega))
  have ua6 : a6 1 8 = x5 := by rw [ea6, mU_same]
  have wa6 := congrArg Int32.toInt ua6
  have ra6_39 : (a6 1 5).toInt = (a3 1 5).toInt := by rw [ea6, mU_slot (by decide)]
  refine w_aload rfl rfl ?_
  refine w_aload rfl rfl ?_
  refine c_getR (t := some 5) rfl rfl rfl rfl rfl ?_
  refine w_aload rfl rfl ?_
  refine c_getI rfl rfl rfl rfl ?_
  have q7 : 0 ≤ (a6 1 5).toInt ∧ (a6 1 5).toInt ≤ 1000 := ha6 1 5
  refine c_lald rfl rfl (by omega) (fun y8 ey8 => ?_)
  refine c_putL rfl rfl rfl rfl (fun b9 eb9 => ?_)
  refine w_aload rfl rfl ?_
  refine w_const rfl ?_
  refine c_putI (z := false) rfl rfl rfl rfl (by first | (intro h9; cases h9; done) | (intro _; first | exact Or.inl rfl | exact Or.inr rfl | assumption | (rcases (by omega : (0 : Int32).toInt = 0 ∨ (0 : Int32).toInt = 1) with h8 | h8; exact Or.inl (ti_eq h8); exact Or.inr (ti_eq h8)))) (fun a10 ea10 => ?_)
  have ha10 : RC K a10 := RC.up ha6 ea10 (lc_any _ (by omega))
  have ua10 : a10 1 9 = (0 : Int32) := by rw [ea10, mU_same]
  have wa10 := congrArg Int32.toInt ua10
  have ra10_54 : (a10 1 5).toInt = (a6 1 5).toInt := by rw [ea10, mU_slot (by decide)]
  refine w_const rfl ?_
  refine w_istore (lo' := [some (.inr (.inr (some 1))), some (.inl 0)]) rfl rfl ?_
  have loop46 : ∀ (ms9 : Nat) (i : Int32) (a46 : Nat → Nat → Int32) (b46 : Nat → Nat → Int64) , (8 - i.toInt).toNat = ms9 → RC K a46 → FR [1] a a46 → (0 ≤ i.toInt ∧ i.toInt ≤ 8) → f_wp (f_code (t_X8_advance (f_ev mtC d))) (46, [some (.inr (.inr (some 1))), some (.inl i)], [], cH a46 b46 v) (fun v9 h' => ∃ (a' : Nat → Nat → Int32) (b' : Nat → Nat → Int64) (v' : Nat → Option Nat), h' = cH a' b' v' ∧ RC K a' ∧ (FR [1] a a' ∧ ((∀ i, i ∉ [2] → v' i = v i) ∧ f_wdb (v' 2) = true) ∧ True) ∧ v9 = none) := by
    intro ms9
    induction ms9 using Nat.strongRecOn with
    | _ ms46 ih46 =>
      intro i a46 b46  hm46 hR46 hF46 hi
      refine w_iload rfl rfl ?_
      refine w_const rfl ?_
      refine w_ic_ge rfl (fun c11 => ?_) (fun c11 => ?_)
      · skip
        refine w_aload rfl rfl ?_
        refine w_const rfl ?_
        refine c_putR rfl rfl rfl rfl rC_put2 (fun v12 ev12 => ?_)
        have loop147 : ∀ (ms9 : Nat)  (a147 : Nat → Nat → Int32) (b147 : Nat → Nat → Int64) (v147 : Nat → Option Nat) (o1_147 : Option f_V), ((0 : Int)).toNat = ms9 → RC K a147 → FR [1] a a147 → (∀ i, i ∉ [2] → v147 i = v i) → (f_wdb (v147 2) = true) → f_wp (f_code (t_X8_advance (f_ev mtC d))) (147, [some (.inr (.inr (some 1))), o1_147], [], cH a147 b147 v147) (fun v9 h' => ∃ (a' : Nat → Nat → Int32) (b' : Nat → Nat → Int64) (v' : Nat → Option Nat), h' = cH a' b' v' ∧ RC K a' ∧ (FR [1] a a' ∧ ((∀ i, i ∉ [2] → v' i = v i) ∧ f_wdb (v' 2) = true) ∧ True) ∧ v9 = none) := by
          intro ms9
          induction ms9 using Nat.strongRecOn with
          | _ ms147 ih147 =>
            intro  a147 b147 v147 o1_147 hm147 hR147 hF147 hG147 hw
            refine w_aload rfl rfl ?_
            refine c_getI rfl rfl rfl rfl ?_
            have q13 : 0 ≤ (a147 1 5).toInt ∧ (a147 1 5).toInt ≤ 1000 := hR147 1 5
            refine w_aload rfl rfl ?_
            refine c_getI rfl rfl rfl rfl ?_
            have q14 : 0 ≤ (a147 1 4).toInt ∧ (a147 1 4).toInt ≤ 1001 := hR147 1 4
            refine w_const rfl ?_
            first | refine w_isub rfl (by omega) (fun x15 tx15 => ?_) | refine w_iiU rfl (fun x15 tx15 => ?_)
            refine w_ic_ge rfl (fun c16 => ?_) (fun c16 => ?_)
            · skip
              exact w_ret rfl ⟨a147, b147, v147, rfl, hR147, ⟨hF147, ⟨hG147, hw⟩, trivial⟩, rfl⟩
            · skip
              refine w_aload rfl rfl ?_
              refine w_dup rfl rfl ?_
              refine c_getI rfl rfl rfl rfl ?_
              have q17 : 0 ≤ (a147 1 5).toInt ∧ (a147 1 5).toInt ≤ 1000 := hR147 1 5
              refine w_const rfl ?_
              first | refine w_iadd rfl (by omega) (fun x18 tx18 => ?_) | refine w_iiU rfl (fun x18 tx18 => ?_)
              refine c_putI (z := false) rfl rfl rfl rfl (by first | (intro h9; cases h9; done) | (intro _; first | exact Or.inl rfl | exact Or.inr rfl | assumption | (rcases (by omega : x18.toInt = 0 ∨ x18.toInt = 1) with h8 | h8; exact Or.inl (ti_eq h8); exact Or.inr (ti_eq h8)))) (fun a19 ea19 => ?_)
              have ha19 : RC K a19 := RC.up hR147 ea19 (show (0 : Int) ≤ _ ∧ _ ≤ (1000 : Int) from by omega)
              have ua19 : a19 1 5 = x18 := by rw [ea19, mU_same]
              have wa19 := congrArg Int32.toInt ua19
              have ra19_96 : (a19 1 4).toInt = (a147 1 4).toInt := by rw [ea19, mU_slot (by decide)]
              exact w_ret rfl ⟨a19, b147, v147, rfl, ha19, ⟨FR.up (hF147) (by first | decide | simp | (simp [cA]; omega) | (simp [cB]; omega)) ea19, ⟨hG147, hw⟩, trivial⟩, rfl⟩
        refine w_const rfl ?_
        refine w_istore (lo' := [some (.inr (.inr (some 1))), some (.inl 0)]) rfl rfl ?_
        have loop100 : ∀ (ms9 : Nat) (i : Int32) (a100 : Nat → Nat → Int32) (b100 : Nat → Nat → Int64) (v100 : Nat → Option Nat) , (31 - i.toInt).toNat = ms9 → RC K a100 → FR [1] a a100 → (∀ i, i ∉ [2] → v100 i = v i) → (0 ≤ i.toInt ∧ i.toInt ≤ 31) → (f_wdb (v100 2) = true) → f_wp (f_code (t_X8_advance (f_ev mtC d))) (100, [some (.inr (.inr (some 1))), some (.inl i)], [], cH a100 b100 v100) (fun v9 h' => ∃ (a' : Nat → Nat → Int32) (b' : Nat → Nat → Int64) (v' : Nat → Option Nat), h' = cH a' b' v' ∧ RC K a' ∧ (FR [1] a a' ∧ ((∀ i, i ∉ [2] → v' i = v i) ∧ f_wdb (v' 2) = true) ∧ True) ∧ v9 = none) := by
          intro ms9
          induction ms9 using Nat.strongRecOn with
          | _ ms100 ih100 =>
            intro i a100 b100 v100  hm100 hR100 hF100 hG100 hi hw
            refine w_aload rfl rfl ?_
            refine c_getI rfl rfl rfl rfl ?_
            refine w_const rfl ?_
            refine w_ic_ne rfl (fun c20 => ?_) (fun c20 => ?_)
            · skip
              refine w_iload rfl rfl ?_
              refine w_const rfl ?_
              refine c_slen rfl ?_
              show f_wp _ (113, [some (.inr (.inr (some 1))), some (.inl i)], .inl 31 :: [.inl i], cH a100 b100 v100) _
              refine w_ic_ge rfl (fun c21 => ?_) (fun c21 => ?_)
              · skip
                exact loop147 _ a100 b100 v100 (some (.inl i)) rfl hR100 (hF100) (hG100) (hw)
              · skip
                refine w_const rfl ?_
                refine w_iload rfl rfl ?_
                refine c_sel (N := 31) rfl (by omega) ?_
                refine c_sfld rfl (if_pos (by omega)) ?_
                refine w_aload rfl rfl ?_
                refine c_getL rfl rfl rfl rfl ?_
                refine w_lcmpE rfl (fun x23 tx23 => ?_)
                refine w_if_ne rfl (fun c24 => ?_) (fun c24 => ?_)
                · skip
                  refine w_aload rfl rfl ?_
                  refine w_const rfl ?_
                  refine w_iload rfl rfl ?_
                  refine c_sel (N := 31) rfl (by omega) ?_
                  refine c_putR rfl rfl rfl rfl rC_put2 (fun v25 ev25 => ?_)
                  refine w_iinc (lo' := fun z9 => [some (.inr (.inr (some 1))), some (.inl z9)]) rfl rfl (fun _ => rfl) (by omega) (fun x26 tx26 => ?_)
                  refine w_goto rfl ?_
                  exact ih100 (31 - x26.toInt).toNat (by omega) x26 a100 b100 v25 rfl hR100 (hF100) (fun i9 h9 => (show v25 i9 = v100 i9 from by rw [ev25]; exact vU_ne (fun z9 => h9 (by rw [z9]; decide))).trans ((show ∀ i9, i9 ∉ [2] → v100 i9 = v i9 from hG100) i9 h9)) (by omega) (by rw [ev25, vU_same]; exact wdb_some (by omega))
                · skip
                  refine w_iinc (lo' := fun z9 => [some (.inr (.inr (some 1))), some (.inl z9)]) rfl rfl (fun _ => rfl) (by omega) (fun x27 tx27 => ?_)
                  refine w_goto rfl ?_
                  exact ih100 (31 - x27.toInt).toNat (by omega) x27 a100 b100 v100 rfl hR100 (hF100) (hG100) (by omega) (hw)
            · skip
              exact loop147 _ a100 b100 v100 (some (.inl i)) rfl hR100 (hF100) (hG100) (hw)
        exact loop100 _ 0 a46 b46 v12 rfl hR46 (hF46) (fun i9 h9 => (show v12 i9 = v i9 from by rw [ev12]; exact vU_ne (fun z9 => h9 (by rw [z9]; decide))).trans ((show ∀ i9, i9 ∉ [2] → v i9 = v i9 from (fun _ _ => rfl)) i9 h9)) (by omega) (by rw [ev12, vU_same]; rfl)
      · skip
        refine w_aload rfl rfl ?_
        refine c_getI rfl rfl rfl rfl ?_
        refine w_const rfl ?_
        refine w_ic_ne rfl (fun c28 => ?_) (fun c28 => ?_)
        · skip
          refine w_aload rfl rfl ?_
          refine w_dup rfl rfl ?_
          refine c_getI rfl rfl rfl rfl ?_
          refine w_aload rfl rfl ?_
          refine c_getL rfl rfl rfl rfl ?_
          refine w_const rfl ?_
          refine w_iload rfl rfl ?_
          first | refine w_imul rfl (c := 5) rfl (by omega) (fun x29 tx29 => ?_) | refine w_iiU rfl (fun x29 tx29 => ?_)
          refine w_liE rfl (fun y30 ty30 => ?_)
          refine w_const rfl ?_
          refine w_lcmpE rfl (fun x31 tx31 => ?_)
          refine w_if_le rfl (fun c32 => ?_) (fun c32 => ?_)
          · skip
            refine w_const rfl ?_
            first | refine w_iadd rfl (by omega) (fun x33 tx33 => ?_) | refine w_iiU rfl (fun x33 tx33 => ?_)
            refine c_putI (z := false) rfl rfl rfl rfl (by first | (intro h9; cases h9; done) | (intro _; first | exact Or.inl rfl | exact Or.inr rfl | assumption | (rcases (by omega : x33.toInt = 0 ∨ x33.toInt = 1) with h8 | h8; exact Or.inl (ti_eq h8); exact Or.inr (ti_eq h8)))) (fun a34 ea34 => ?_)
            have ha34 : RC K a34 := RC.up hR46 ea34 (lc_any _ (by omega))
            have ua34 : a34 1 9 = x33 := by rw [ea34, mU_same]
            have wa34 := congrArg Int32.toInt ua34
            have ra34_167 : (a34 1 7).toInt = (a46 1 7).toInt := by rw [ea34, mU_slot (by decide)]
            refine w_iinc (lo' := fun z9 => [some (.inr (.inr (some 1))), some (.inl z9)]) rfl rfl (fun _ => rfl) (by omega) (fun x35 tx35 => ?_)
            refine w_goto rfl ?_
            exact ih46 (8 - x35.toInt).toNat (by omega) x35 a34 b46 rfl ha34 (FR.up (hF46) (by first | decide | simp | (simp [cA]; omega) | (simp [cB]; omega)) ea34) (by omega)
          · skip
            refine w_const rfl ?_
            refine w_goto rfl ?_
            first | refine w_iadd rfl (by omega) (fun x36 tx36 => ?_) | refine w_iiU rfl (fun x36 tx36 => ?_)
            refine c_putI (z := false) rfl rfl rfl rfl (by first | (intro h9; cases h9; done) | (intro _; first | exact Or.inl rfl | exact Or.inr rfl | assumption | (rcases (by omega : x36.toInt = 0 ∨ x36.toInt = 1) with h8 | h8; exact Or.inl (ti_eq h8); exact Or.inr (ti_eq h8)))) (fun a37 ea37 => ?_)
            have ha37 : RC K a37 := RC.up hR46 ea37 (lc_any _ (by omega))
            have ua37 : a37 1 9 = x36 := by rw [ea37, mU_same]
            have wa37 := congrArg Int32.toInt ua37
            have ra37_179 : (a37 1 7).toInt = (a46 1 7).toInt := by rw [ea37, mU_slot (by decide)]
            refine w_iinc (lo' := fun z9 => [some (.inr (.inr (some 1))), some (.inl z9)]) rfl rfl (fun _ => rfl) (by omega) (fun x38 tx38 => ?_)
            refine w_goto rfl ?_
            exact ih46 (8 - x38.toInt).toNat (by omega) x38 a37 b46 rfl ha37 (FR.up (hF46) (by first | decide | simp | (simp [cA]; omega) | (simp [cB]; omega)) ea37) (by omega)
        · skip
          refine w_aload rfl rfl ?_
          refine w_const rfl ?_
          refine c_putR rfl rfl rfl rfl rC_put2 (fun v39 ev39 => ?_)
          have loop147 : ∀ (ms9 : Nat)  (a147 : Nat → Nat → Int32) (b147 : Nat → Nat → Int64) (v147 : Nat → Option Nat) (o1_147 : Option f_V), ((0 : Int)).toNat = ms9 → RC K a147 → FR [1] a a147 → (∀ i, i ∉ [2] → v147 i = v i) → (f_wdb (v147 2) = true) → f_wp (f_code (t_X8_advance (f_ev mtC d))) (147, [some (.inr (.inr (some 1))), o1_147], [], cH a147 b147 v147) (fun v9 h' => ∃ (a' : Nat → Nat → Int32) (b' : Nat → Nat → Int64) (v' : Nat → Option Nat), h' = cH a' b' v' ∧ RC K a' ∧ (FR [1] a a' ∧ ((∀ i, i ∉ [2] → v' i = v i) ∧ f_wdb (v' 2) = true) ∧ True) ∧ v9 = none) := by
            intro ms9
            induction ms9 using Nat.strongRecOn with
            | _ ms147 ih147 =>
              intro  a147 b147 v147 o1_147 hm147 hR147 hF147 hG147 hw
              refine w_aload rfl rfl ?_
              refine c_getI rfl rfl rfl rfl ?_
              have q40 : 0 ≤ (a147 1 5).toInt ∧ (a147 1 5).toInt ≤ 1000 := hR147 1 5
              refine w_aload rfl rfl ?_
              refine c_getI rfl rfl rfl rfl ?_
              have q41 : 0 ≤ (a147 1 4).toInt ∧ (a147 1 4).toInt ≤ 1001 := hR147 1 4
              refine w_const rfl ?_
              first | refine w_isub rfl (by omega) (fun x42 tx42 => ?_) | refine w_iiU rfl (fun x42 tx42 => ?_)
              refine w_ic_ge rfl (fun c43 => ?_) (fun c43 => ?_)
              · skip
                exact w_ret rfl ⟨a147, b147, v147, rfl, hR147, ⟨hF147, ⟨hG147, hw⟩, trivial⟩, rfl⟩
              · skip
                refine w_aload rfl rfl ?_
                refine w_dup rfl rfl ?_
                refine c_getI rfl rfl rfl rfl ?_
                have q44 : 0 ≤ (a147 1 5).toInt ∧ (a147 1 5).toInt ≤ 1000 := hR147 1 5
                refine w_const rfl ?_
                first | refine w_iadd rfl (by omega) (fun x45 tx45 => ?_) | refine w_iiU rfl (fun x45 tx45 => ?_)
                refine c_putI (z := false) rfl rfl rfl rfl (by first | (intro h9; cases h9; done) | (intro _; first | exact Or.inl rfl | exact Or.inr rfl | assumption | (rcases (by omega : x45.toInt = 0 ∨ x45.toInt = 1) with h8 | h8; exact Or.inl (ti_eq h8); exact Or.inr (ti_eq h8)))) (fun a46 ea46 => ?_)
                have ha46 : RC K a46 := RC.up hR147 ea46 (show (0 : Int) ≤ _ ∧ _ ≤ (1000 : Int) from by omega)
                have ua46 : a46 1 5 = x45 := by rw [ea46, mU_same]
                have wa46 := congrArg Int32.toInt ua46
                have ra46_214 : (a46 1 4).toInt = (a147 1 4).toInt := by rw [ea46, mU_slot (by decide)]
                exact w_ret rfl ⟨a46, b147, v147, rfl, ha46, ⟨FR.up (hF147) (by first | decide | simp | (simp [cA]; omega) | (simp [cB]; omega)) ea46, ⟨hG147, hw⟩, trivial⟩, rfl⟩
          refine w_const rfl ?_
          refine w_istore (lo' := [some (.inr (.inr (some 1))), some (.inl 0)]) rfl rfl ?_
          have loop100 : ∀ (ms9 : Nat) (i : Int32) (a100 : Nat → Nat → Int32) (b100 : Nat → Nat → Int64) (v100 : Nat → Option Nat) , (31 - i.toInt).toNat = ms9 → RC K a100 → FR [1] a a100 → (∀ i, i ∉ [2] → v100 i = v i) → (0 ≤ i.toInt ∧ i.toInt ≤ 31) → (f_wdb (v100 2) = true) → f_wp (f_code (t_X8_advance (f_ev mtC d))) (100, [some (.inr (.inr (some 1))), some (.inl i)], [], cH a100 b100 v100) (fun v9 h' => ∃ (a' : Nat → Nat → Int32) (b' : Nat → Nat → Int64) (v' : Nat → Option Nat), h' = cH a' b' v' ∧ RC K a' ∧ (FR [1] a a' ∧ ((∀ i, i ∉ [2] → v' i = v i) ∧ f_wdb (v' 2) = true) ∧ True) ∧ v9 = none) := by
            intro ms9
            induction ms9 using Nat.strongRecOn with
            | _ ms100 ih100 =>
              intro i a100 b100 v100  hm100 hR100 hF100 hG100 hi hw
              refine w_aload rfl rfl ?_
              refine c_getI rfl rfl rfl rfl ?_
              refine w_const rfl ?_
              refine w_ic_ne rfl (fun c47 => ?_) (fun c47 => ?_)
              · skip
                refine w_iload rfl rfl ?_
                refine w_const rfl ?_
                refine c_slen rfl ?_
                show f_wp _ (113, [some (.inr (.inr (some 1))), some (.inl i)], .inl 31 :: [.inl i], cH a100 b100 v100) _
                refine w_ic_ge rfl (fun c48 => ?_) (fun c48 => ?_)
                · skip
                  exact loop147 _ a100 b100 v100 (some (.inl i)) rfl hR100 (hF100) (hG100) (hw)
                · skip
                  refine w_const rfl ?_
                  refine w_iload rfl rfl ?_
                  refine c_sel (N := 31) rfl (by omega) ?_
                  refine c_sfld rfl (if_pos (by omega)) ?_
                  refine w_aload rfl rfl ?_
                  refine c_getL rfl rfl rfl rfl ?_
                  refine w_lcmpE rfl (fun x50 tx50 => ?_)
                  refine w_if_ne rfl (fun c51 => ?_) (fun c51 => ?_)
                  · skip
                    refine w_aload rfl rfl ?_
                    refine w_const rfl ?_
                    refine w_iload rfl rfl ?_
                    refine c_sel (N := 31) rfl (by omega) ?_
                    refine c_putR rfl rfl rfl rfl rC_put2 (fun v52 ev52 => ?_)
                    refine w_iinc (lo' := fun z9 => [some (.inr (.inr (some 1))), some (.inl z9)]) rfl rfl (fun _ => rfl) (by omega) (fun x53 tx53 => ?_)
                    refine w_goto rfl ?_
                    exact ih100 (31 - x53.toInt).toNat (by omega) x53 a100 b100 v52 rfl hR100 (hF100) (fun i9 h9 => (show v52 i9 = v100 i9 from by rw [ev52]; exact vU_ne (fun z9 => h9 (by rw [z9]; decide))).trans ((show ∀ i9, i9 ∉ [2] → v100 i9 = v i9 from hG100) i9 h9)) (by omega) (by rw [ev52, vU_same]; exact wdb_some (by omega))
                  · skip
                    refine w_iinc (lo' := fun z9 => [some (.inr (.inr (some 1))), some (.inl z9)]) rfl rfl (fun _ => rfl) (by omega) (fun x54 tx54 => ?_)
                    refine w_goto rfl ?_
                    exact ih100 (31 - x54.toInt).toNat (by omega) x54 a100 b100 v100 rfl hR100 (hF100) (hG100) (by omega) (hw)
              · skip
                exact loop147 _ a100 b100 v100 (some (.inl i)) rfl hR100 (hF100) (hG100) (hw)
          exact loop100 _ 0 a46 b46 v39 rfl hR46 (hF46) (fun i9 h9 => (show v39 i9 = v i9 from by rw [ev39]; exact vU_ne (fun z9 => h9 (by rw [z9]; decide))).trans ((show ∀ i9, i9 ∉ [2] → v i9 = v i9 from (fun _ _ => rfl)) i9 h9)) (by omega) (by rw [ev39, vU_same]; rfl)
  exact loop46 _ 0 a10 b9 rfl ha10 (FR.up (FR.up (FR.up (FR.rf) (by first | decide | simp | (simp [cA]; omega) | (simp [cB]; omega)) ea3) (by first | decide | simp | (simp [cA]; omega) | (simp [cB]; omega)) ea6) (by first | decide | simp | (simp [cA]; omega) | (simp [cB]; omega)) ea10) (by omega)
set_option maxRecDepth 4000 in
theorem s_X8_begin {K : Nat} (a : Nat → Nat → Int32) (b : Nat → Nat → Int64) (v : Nat → Option Nat)  (hR : RC K a)  : f_call mtC 6 83 [.inr (.inr (some 1))] (cH a b v) (fun v9 h' => ∃ (a' : Nat → Nat → Int32) (b' : Nat → Nat → Int64) (v' : Nat → Option Nat), h' = cH a' b' v' ∧ RC K a' ∧ (FR [1, 3, 4] a a' ∧ ((∀ i, i ∉ [2] → v' i = v i) ∧ f_wdb (v' 2) = true) ∧ True) ∧ v9 = none) := by
  refine f_call_of (d0 := 5) rfl (Nat.le_of_ble_eq_true rfl) (fun d hd => ?_)
  show f_wp _ (0, [some (.inr (.inr (some 1))), none, none], [], cH a b v) _
  have l0 : (0 : Int32).toInt = 0 := rfl
  have l1 : (1 : Int32).toInt = 1 := rfl
  have l10 : (10 : Int32).toInt = 10 := rfl
  have l32 : (32 : Int32).toInt = 32 := rfl
  refine w_aload rfl rfl ?_
  refine w_const rfl ?_
  refine c_putI (z := false) rfl rfl rfl rfl (by first | (intro h9; cases h9; done) | (intro _; first | exact Or.inl rfl | exact Or.inr rfl | assumption | (rcases (by omega : (0 : Int32).toInt = 0 ∨ (0 : Int32).toInt = 1) with h8 | h8; exact Or.inl (ti_eq h8); exact Or.inr (ti_eq h8)))) (fun a1 ea1 => ?_)
  have ha1 : RC K a1 := RC.up hR ea1 (show (0 : Int) ≤ _ ∧ _ ≤ (1001 : Int) from by omega)
  have ua1 : a1 1 4 = (0 : Int32) := by rw [ea1, mU_same]
  have wa1 := congrArg Int32.toInt ua1
  refine w_const rfl ?_
  refine w_istore (lo' := [some (.inr (.inr (some 1))), some (.inl 0), none]) rfl rfl ?_
  refine w_const rfl ?_
  refine w_istore (lo' := [some (.inr (.inr (some 1))), some (.inl 0), some (.inl 0)]) rfl rfl ?_
  have loop9 : ∀ (ms9 : Nat) (be : Int32) (i : Int32) (a9 : Nat → Nat → Int32) (b9 : Nat → Nat → Int64) , (1000 - i.toInt).toNat = ms9 → RC K a9 → FR [1, 3, 4] a a9 → (0 ≤ i.toInt ∧ i.toInt ≤ 1000) → f_wp (f_code (t_X8_begin (f_ev mtC d))) (9, [some (.inr (.inr (some 1))), some (.inl be), some (.inl i)], [], cH a9 b9 v) (fun v9 h' => ∃ (a' : Nat → Nat → Int32) (b' : Nat → Nat → Int64) (v' : Nat → Option Nat), h' = cH a' b' v' ∧ RC K a' ∧ (FR [1, 3, 4] a a' ∧ ((∀ i, i ∉ [2] → v' i = v i) ∧ f_wdb (v' 2) = true) ∧ True) ∧ v9 = none) := by
    intro ms9
    induction ms9 using Nat.strongRecOn with
    | _ ms9 ih9 =>
      intro be i a9 b9  hm9 hR9 hF9 hi
      refine w_iload rfl rfl ?_
      refine w_aload rfl rfl ?_
      refine c_getI rfl rfl rfl rfl ?_
      have q2 : 0 ≤ (a9 1 6).toInt ∧ (a9 1 6).toInt ≤ 1000 := hR9 1 6
      refine w_ic_ge rfl (fun c3 => ?_) (fun c3 => ?_)
      · skip
        refine w_aload rfl rfl ?_
        refine w_const rfl ?_
        refine w_aload rfl rfl ?_
        refine c_getI rfl rfl rfl rfl ?_
        have q4 : 0 ≤ (a9 1 6).toInt ∧ (a9 1 6).toInt ≤ 1000 := hR9 1 6
        refine w_const rfl ?_
        refine w_invV (rest := []) rfl rfl rfl rfl rfl (Nat.le_of_ble_eq_true rfl) rfl (by omega) (s_X8_keep (K := K) a9 b9 v  0 (a9 1 6) 0 hR9  ) (fun z5 h9 hq6 => ?_)
        obtain ⟨a7, b8, rfl, ha7, fa7, rfl⟩ := hq6
        show f_wp _ (66, [some (.inr (.inr (some 1))), some (.inl be), some (.inl i)], [], cH a7 b8 v) _
        refine w_aload rfl rfl ?_
        refine w_const rfl ?_
        refine c_putI (z := false) rfl rfl rfl rfl (by first | (intro h9; cases h9; done) | (intro _; first | exact Or.inl rfl | exact Or.inr rfl | assumption | (rcases (by omega : (0 : Int32).toInt = 0 ∨ (0 : Int32).toInt = 1) with h8 | h8; exact Or.inl (ti_eq h8); exact Or.inr (ti_eq h8)))) (fun a9 ea9 => ?_)
        have ha9 : RC K a9 := RC.up ha7 ea9 (show (0 : Int) ≤ _ ∧ _ ≤ (1000 : Int) from by omega)
        have ua9 : a9 1 5 = (0 : Int32) := by rw [ea9, mU_same]
        have wa9 := congrArg Int32.toInt ua9
        refine w_aload rfl rfl ?_
        refine w_invV (rest := []) rfl rfl rfl rfl rfl (Nat.le_of_ble_eq_true rfl) rfl (by omega) (s_X8_advance (K := K) a9 b8 v   ha9  ) (fun z10 h9 hq11 => ?_)
        obtain ⟨a12, b13, v14, rfl, ha12, fa12, rfl⟩ := hq11
        show f_wp _ (75, [some (.inr (.inr (some 1))), some (.inl be), some (.inl i)], [], cH a12 b13 v14) _
        exact w_ret rfl ⟨a12, b13, v14, rfl, ha12, ⟨FR.tr (FR.up (FR.tr (hF9) (FR.sub fa7.1 (by first | exact (fun _ h9 => h9) | decide | (intro c9 h9; simp only [List.mem_cons, List.not_mem_nil, or_false] at h9 ⊢; omega) | (intro c9 h9; simp at h9; simp [cA]; omega) | (intro c9 h9; simp at h9; simp [cB]; omega) | (intro c9 h9; simp [cA] at h9; simp [cB]; omega)))) (by first | decide | simp | (simp [cA]; omega) | (simp [cB]; omega)) ea9) (FR.sub fa12.1 (by first | exact (fun _ h9 => h9) | decide | (intro c9 h9; simp only [List.mem_cons, List.not_mem_nil, or_false] at h9 ⊢; omega) | (intro c9 h9; simp at h9; simp [cA]; omega) | (intro c9 h9; simp at h9; simp [cB]; omega) | (intro c9 h9; simp [cA] at h9; simp [cB]; omega))), ⟨fun i9 h9 => (fa12.2.1.1 i9 (fun z9 => h9 (by first | exact z9 | (revert z9; simp; done) | (revert z9; simp; omega)))).trans ((show ∀ i9, i9 ∉ [2] → v i9 = v i9 from (fun _ _ => rfl)) i9 h9), fa12.2.1.2⟩, trivial⟩, rfl⟩
      · skip
        refine w_iload rfl rfl ?_
        refine w_iload rfl rfl ?_
        refine w_ic_lt rfl (fun c15 => ?_) (fun c15 => ?_)
        · skip
          refine w_iinc (lo' := fun z9 => [some (.inr (.inr (some 1))), some (.inl be), some (.inl z9)]) rfl rfl (fun _ => rfl) (by omega) (fun x16 tx16 => ?_)
          refine w_goto rfl ?_
          exact ih9 (1000 - x16.toInt).toNat (by omega) be x16 a9 b9 rfl hR9 (hF9) (by omega)
        · skip
          refine w_aload rfl rfl ?_
          refine c_getR (t := some 2) rfl rfl rfl rfl rfl ?_
          refine w_iload rfl rfl ?_
          refine c_cald rfl rfl (by omega) (fun x17 ex17 => ?_)
          refine w_const rfl ?_
          refine w_ic_eq rfl (fun c18 => ?_) (fun c18 => ?_)
          · skip
            refine w_iinc (lo' := fun z9 => [some (.inr (.inr (some 1))), some (.inl be), some (.inl z9)]) rfl rfl (fun _ => rfl) (by omega) (fun x19 tx19 => ?_)
            refine w_goto rfl ?_
            exact ih9 (1000 - x19.toInt).toNat (by omega) be x19 a9 b9 rfl hR9 (hF9) (by omega)
          · skip
            refine w_aload rfl rfl ?_
            refine c_getR (t := some 2) rfl rfl rfl rfl rfl ?_
            refine w_iload rfl rfl ?_
            refine c_cald rfl rfl (by omega) (fun x20 ex20 => ?_)
            refine w_const rfl ?_
            refine w_ic_eq rfl (fun c21 => ?_) (fun c21 => ?_)
            · skip
              refine w_iinc (lo' := fun z9 => [some (.inr (.inr (some 1))), some (.inl be), some (.inl z9)]) rfl rfl (fun _ => rfl) (by omega) (fun x22 tx22 => ?_)
              refine w_goto rfl ?_
              exact ih9 (1000 - x22.toInt).toNat (by omega) be x22 a9 b9 rfl hR9 (hF9) (by omega)
            · skip
              refine w_aload rfl rfl ?_
              refine w_iload rfl rfl ?_
              refine w_invV (rest := []) rfl rfl rfl rfl rfl (Nat.le_of_ble_eq_true rfl) rfl (by omega) (s_X8_cut (K := K) a9 b9 v  i hR9  (by omega)) (fun z23 h9 hq24 => ?_)
              obtain ⟨a25, b26, rfl, ha25, fa25, x27, rfl, px27⟩ := hq24
              show f_wp _ (49, [some (.inr (.inr (some 1))), some (.inl be), some (.inl i)], [.inl x27], cH a25 b26 v) _
              refine w_istore (lo' := [some (.inr (.inr (some 1))), some (.inl x27), some (.inl i)]) rfl rfl ?_
              refine w_iinc (lo' := fun z9 => [some (.inr (.inr (some 1))), some (.inl x27), some (.inl z9)]) rfl rfl (fun _ => rfl) (by omega) (fun x28 tx28 => ?_)
              refine w_goto rfl ?_
              exact ih9 (1000 - x28.toInt).toNat (by omega) x27 x28 a25 b26 rfl ha25 (FR.tr (hF9) (FR.sub fa25.1 (by first | exact (fun _ h9 => h9) | decide | (intro c9 h9; simp only [List.mem_cons, List.not_mem_nil, or_false] at h9 ⊢; omega) | (intro c9 h9; simp at h9; simp [cA]; omega) | (intro c9 h9; simp at h9; simp [cB]; omega) | (intro c9 h9; simp [cA] at h9; simp [cB]; omega)))) (by omega)
  exact loop9 _ 0 0 a1 b rfl ha1 (FR.up (FR.rf) (by first | decide | simp | (simp [cA]; omega) | (simp [cB]; omega)) ea1) (by omega)
