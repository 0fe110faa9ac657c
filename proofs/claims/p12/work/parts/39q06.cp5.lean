set_option maxHeartbeats 4000000 in
set_option maxRecDepth 4000 in
theorem y_X6_riverLine {d : Nat} (a : Nat → Nat → Int32) (b : Nat → Nat → Int64) (v : Nat → Option Nat) (z : Nat) (N : Nat) (c : Nat) (t : Nat → Int32) (L : Nat) (V : Nat → Int) (M : Nat → Int64) (o : Nat → Bool)  (hw : f_wdb (v 2) = true) (h3L : v 3 = some L) (hL : L = 22 ∨ L = 46) (hS : CSt t z N c a b v) (hC : CLN t z L V M a b) (hk0 : ¬ lxK t z c = 0) : f_pc mtC d 57 [.inr (.inr (some 6))] (cH a b v) (fun v9 h' => ∃ (a' : Nat → Nat → Int32) (b' : Nat → Nat → Int64) (v' : Nat → Option Nat), h' = cH a' b' v' ∧ (FR [1, 6, L, L + 12, L + 13, L + 14, L + 15, L + 16, L + 17, L + 18, L + 19, L + 20, L + 21, L + 22, L + 23] a a' ∧ ((∀ i, i ∉ [2] → v' i = v i) ∧ f_wdb (v' 2) = true) ∧ (∀ j, j ≠ 9 → j ≠ 10 → a' 6 j = a 6 j)) ∧ ∃ x : Int32, v9 = some (.inl x) ∧ (PSt t z N (rvC t z c) (rvE t z M (V 0).toNat c) x a' b' v' ∧ (rvE t z M (V 0).toNat c = 0 → CLN t z L (rvL t z (c, V, M, o)) (upN M (V 0).toNat (lxV fM t z (c + 1))) a' b'))) := by
  refine f_pc_of rfl (fun d0 fu hd => ?_)
  show f_pq _ _ (0, [some (.inr (.inr (some 6))), none, none], [], cH a b v) _
  have l0 : (0 : Int32).toInt = 0 := rfl
  have l1 : (1 : Int32).toInt = 1 := rfl
  have l5 : (5 : Int32).toInt = 5 := rfl
  have l6 : (6 : Int32).toInt = 6 := rfl
  obtain ⟨s0, s1, s2, s3, s4, s5, s6⟩ := hS.pl
  have v0x := hC.1
  refine qw_aload rfl rfl ?_
  refine qc_getR (t := some L) rfl rfl rfl rfl h3L ?_
  refine qc_getI rfl (sh_land (by omega)) rfl rfl ?_
  refine qw_const rfl ?_
  refine qw_ic_lt rfl (fun c1 => ?_) (fun c1 => ?_)
  · skip
    refine qw_aload rfl rfl ?_
    refine qc_getR (t := some 1) rfl rfl rfl rfl rfl ?_
    refine qw_invV (rest := []) rfl rfl rfl rfl rfl (Nat.le_of_ble_eq_true rfl) rfl (y_X8_advance (d := d0) a b v   (by omega) (by omega)) (fun z2 h9 hq3 => ?_)
    obtain ⟨a4, b5, v6, rfl, fa4, rfl⟩ := hq3
    show f_pq _ _ (25, [some (.inr (.inr (some 6))), none, none], [], cH a4 b5 v6) _
    have V9 := fa4
    have C1 := hS.next hk0 V9.1 V9.2.2 V9.2.1.2.2
    have e7a : (a4 L 7).toInt = V 0 := by rw [V9.1 L (by simp only [List.mem_cons, List.not_mem_nil, or_false, not_or]; omega)]; exact hC.1.1
    refine qw_aload rfl rfl ?_
    refine qc_getR (t := some L) rfl rfl rfl rfl ((fa4.2.1.1 3 (by decide)).trans h3L) ?_
    refine qc_getR (t := some (L + 1)) rfl (sh_land (by omega)) rfl rfl (rC_land0 (by omega)) ?_
    refine qw_aload rfl rfl ?_
    refine qc_getR (t := some L) rfl rfl rfl rfl ((fa4.2.1.1 3 (by decide)).trans h3L) ?_
    refine qc_getI rfl (sh_land (by omega)) rfl rfl ?_
    refine qc_aald5 (t := some ((L + 1) + 11 + 2 * (a4 L 7).toInt.toNat)) rfl (sh_row (by omega)) (rC_row (by omega)) (fun jr39 => ?_)
    generalize hq0 : ((L + 1) + 11 + 2 * (a4 L 7).toInt.toNat) = q
    have hqq : (34 ≤ q ∧ q < 46 ∨ 58 ≤ q ∧ q < 70) ∧ q % 2 = 0 := by omega
    have hqe : q = L + 1 + 11 + 2 * (V 0).toNat := by omega
    have SB1 : ∀ c ∈ [1, 6, q], c ∈ [1, 6, L, L + 12, L + 13, L + 14, L + 15, L + 16, L + 17, L + 18, L + 19, L + 20, L + 21, L + 22, L + 23] := by intro c9 h9; simp only [List.mem_cons, List.not_mem_nil, or_false] at h9 ⊢; omega
    have SB2 : ∀ c ∈ [1, 6, q + 1], c ∈ [1, 6, L, L + 12, L + 13, L + 14, L + 15, L + 16, L + 17, L + 18, L + 19, L + 20, L + 21, L + 22, L + 23] := by intro c9 h9; simp only [List.mem_cons, List.not_mem_nil, or_false] at h9 ⊢; omega
    have SB3 : ∀ c ∈ [q], c ∈ [1, 6, L, L + 12, L + 13, L + 14, L + 15, L + 16, L + 17, L + 18, L + 19, L + 20, L + 21, L + 22, L + 23] := by intro c9 h9; exact SB1 c9 (by simp only [List.mem_cons, List.not_mem_nil, or_false] at h9 ⊢; exact Or.inr (Or.inr h9))
    have FF0x : FR [1, 6, L, L + 12, L + 13, L + 14, L + 15, L + 16, L + 17, L + 18, L + 19, L + 20, L + 21, L + 22, L + 23] a a4 := FR.sub V9.1 (by intro c9 h9; rw [List.mem_singleton.mp h9]; exact List.mem_cons_self)
    have GG0x : ∀ i, i ∉ [2] → v6 i = v i := V9.2.1.1
    have fr0x : ∀ i, i ≠ 1 → i ≠ 6 → i ≠ q → i ≠ q + 1 → a4 i = a i := fun i h1 h6 hq1 hq2 => fa4.1 i (by simp only [List.mem_cons, List.not_mem_nil, or_false, not_or]; exact h1)
    have fb0x : ∀ i, i ≠ 1 → i ≠ q → b5 i = b i := fun i h1 hq1 => BF.av fa4.2.2 i h1
    have f60x : ∀ j, j ≠ 9 → j ≠ 10 → a4 6 j = a 6 j := fun j h8 h9 => congrFun (fa4.1 6 (by decide)) j
    have RE := rvE_c (t := t) (z := z) (n := (V 0).toNat) (c := c) (M := M) (by omega)
    refine qw_astore (lo' := [some (.inr (.inr (some 6))), some (.inr (.inr (some q))), none]) rfl rfl ?_
    refine qw_aload rfl rfl ?_
    refine qw_invV (rest := []) rfl rfl (sh_riv (by omega)) rfl rfl (Nat.le_of_ble_eq_true rfl) rfl (y_X7_clear (d := d0) a4 b5 v6  q (hqq)) (fun z7 h9 hq8 => ?_)
    obtain ⟨a9, rfl, fa9, rfl⟩ := hq8
    show f_pq _ _ (45, [some (.inr (.inr (some 6))), some (.inr (.inr (some q))), none], [], cH a9 b5 v6) _
    have m1x := fa9.2
    have fr1x : ∀ i, i ≠ 1 → i ≠ 6 → i ≠ q → i ≠ q + 1 → a9 i = a i := fun i h1 h6 hq1 hq2 => (fa9.1 i (by simp only [List.mem_cons, List.not_mem_nil, or_false, not_or]; exact hq1)).trans (fr0x i h1 h6 hq1 hq2)
    have fb1x : ∀ i, i ≠ 1 → i ≠ q → b5 i = b i := fun i h1 hq1 => fb0x i h1 hq1
    have f61x : ∀ j, j ≠ 9 → j ≠ 10 → a9 6 j = a 6 j := fun j h8 h9 => (congrFun (fa9.1 6 (by simp only [List.mem_cons, List.not_mem_nil, or_false, not_or]; omega)) j).trans (f60x j h8 h9)
    have FF1x : FR [1, 6, L, L + 12, L + 13, L + 14, L + 15, L + 16, L + 17, L + 18, L + 19, L + 20, L + 21, L + 22, L + 23] a a9 := FR.tr FF0x (FR.sub fa9.1 SB3)
    have C2 := C1.fr (a' := a9) (fa9.1 1 (by simp only [List.mem_cons, List.not_mem_nil, or_false, not_or]; omega)) (fa9.1 3 (by simp only [List.mem_cons, List.not_mem_nil, or_false, not_or]; omega)) (fa9.1 4 (by simp only [List.mem_cons, List.not_mem_nil, or_false, not_or]; omega)) (by rw [fa9.1 6 (by simp only [List.mem_cons, List.not_mem_nil, or_false, not_or]; omega)])
    have loop107 : ∀ (fuJ107 : Nat) (g : Int32) (a107 : Nat → Nat → Int32) (b107 : Nat → Nat → Int64) (v107 : Nat → Option Nat) ,  FR [1, 6, L, L + 12, L + 13, L + 14, L + 15, L + 16, L + 17, L + 18, L + 19, L + 20, L + 21, L + 22, L + 23] a a107 → (∀ i, i ∉ [2] → v107 i = v i) → (f_wdb (v107 2) = true) → ((∀ j, j ≠ 9 → j ≠ 10 → a107 6 j = a 6 j)) → ((∀ i, i ≠ 1 → i ≠ 6 → i ≠ q → i ≠ q + 1 → a107 i = a i)) → ((∀ i, i ≠ 1 → i ≠ q → b107 i = b i)) → ((g.toInt = 1 ∧ RVQ t z M (V 0).toNat c q a107 b107 ∧ CSt t z N (rvC t z c) a107 b107 v107 ∧ rvE t z M (V 0).toNat c = 0) ∨ (g.toInt = 0 ∧ ¬ rvE t z M (V 0).toNat c = 0 ∧ (a107 6 10).toInt = rvE t z M (V 0).toNat c)) → f_pq (f_code (t_X6_riverLine (f_ev mtC d0))) fuJ107 (107, [some (.inr (.inr (some 6))), some (.inr (.inr (some q))), some (.inl g)], [], cH a107 b107 v107) (fun v9 h' => ∃ (a' : Nat → Nat → Int32) (b' : Nat → Nat → Int64) (v' : Nat → Option Nat), h' = cH a' b' v' ∧ (FR [1, 6, L, L + 12, L + 13, L + 14, L + 15, L + 16, L + 17, L + 18, L + 19, L + 20, L + 21, L + 22, L + 23] a a' ∧ ((∀ i, i ∉ [2] → v' i = v i) ∧ f_wdb (v' 2) = true) ∧ (∀ j, j ≠ 9 → j ≠ 10 → a' 6 j = a 6 j)) ∧ ∃ x : Int32, v9 = some (.inl x) ∧ (PSt t z N (rvC t z c) (rvE t z M (V 0).toNat c) x a' b' v' ∧ (rvE t z M (V 0).toNat c = 0 → CLN t z L (rvL t z (c, V, M, o)) (upN M (V 0).toNat (lxV fM t z (c + 1))) a' b'))) := by
      intro fuJ107 g a107 b107 v107  hF107 hG107 hw9 hK6 hfa hfb hG
      · skip
        refine qw_iload rfl rfl ?_
        refine qw_if_eq rfl (fun c10 => ?_) (fun c10 => ?_)
        · skip
          have Z7 : ¬ rvE t z M (V 0).toNat c = 0 ∧ (a107 6 10).toInt = rvE t z M (V 0).toNat c := by rcases hG with h | h; omega; exact h.2
          refine qw_iload rfl rfl ?_
          exact qwp_iret (z := true) rfl (fun _ => by first | exact Or.inl rfl | exact Or.inr rfl | (rcases (by omega : g.toInt = 0 ∨ g.toInt = 1) with h8 | h8; exact Or.inl (Int32.toInt_inj.mp h8); exact Or.inr (Int32.toInt_inj.mp h8)) | exact Or.inl (Int32.toInt_inj.mp (z8.trans (by rfl)))) ⟨a107, b107, v107, rfl, ⟨hF107, ⟨hG107, hw9⟩, hK6⟩, ⟨_, rfl, ⟨PSt.fl (by omega) Z7 rfl, fun h => absurd h Z7.1⟩⟩⟩
        · skip
          have G1 : g.toInt = 1 ∧ RVQ t z M (V 0).toNat c q a107 b107 ∧ CSt t z N (rvC t z c) a107 b107 v107 ∧ rvE t z M (V 0).toNat c = 0 := by rcases hG with h | h; exact h; omega
          have a7x : (a107 L 7).toInt = V 0 := by rw [hfa L (by omega) (by omega) (by omega) (by omega)]; exact hC.1.1
          refine qw_aload rfl rfl ?_
          refine qc_getR (t := some L) rfl rfl rfl rfl ((hG107 3 (by decide)).trans h3L) ?_
          refine qw_dup rfl rfl ?_
          refine qc_getI rfl (sh_land (by omega)) rfl rfl ?_
          refine qw_const rfl ?_
          first | refine qw_iadd rfl (by omega) (fun x11 tx11 => ?_) | refine qw_iiU rfl (fun x11 tx11 => ?_)
          refine qc_putI (z := false) rfl (sh_land (by omega)) rfl rfl (by first | (intro h9; cases h9; done) | (intro _; first | exact Or.inl rfl | exact Or.inr rfl | assumption | (rcases (by omega : x11.toInt = 0 ∨ x11.toInt = 1) with h8 | h8; exact Or.inl (ti_eq h8); exact Or.inr (ti_eq h8)))) (fun a12 ea12 => ?_)
          have ua12 : a12 L 7 = x11 := by rw [ea12, mU_same]
          have wa12 := congrArg Int32.toInt ua12
          refine qw_iload rfl rfl ?_
          exact qwp_iret (z := true) rfl (fun _ => by first | exact Or.inl rfl | exact Or.inr rfl | (rcases (by omega : g.toInt = 0 ∨ g.toInt = 1) with h8 | h8; exact Or.inl (Int32.toInt_inj.mp h8); exact Or.inr (Int32.toInt_inj.mp h8)) | exact Or.inl (Int32.toInt_inj.mp (z8.trans (by rfl)))) ⟨a12, b107, v107, rfl, ⟨FR.up (hF107) (by first | decide | (simp; done) | exact cA_mem (by omega) | exact cB_mem (by omega)) ea12, ⟨hG107, hw9⟩, fun j h8 h9 => by rw [ea12, mU_cell (by omega)]; exact hK6 j h8 h9⟩, ⟨_, rfl, ⟨PSt.ok G1.1 G1.2.2.2 (G1.2.2.1.fr (by rw [ea12, mU_cell (by omega)]) (by rw [ea12, mU_cell (by omega)]) (by rw [ea12, mU_cell (by omega)]) (by rw [ea12, mU_cell (by omega)])), fun _ => hC.river hL (n := (V 0).toNat) (by omega) (by omega) (by rw [← hqe]; exact hfa) (by rw [← hqe]; exact hfb) (by rw [← hqe]; exact G1.2.1) ea12 (by omega)⟩⟩⟩
    refine qw_aload rfl rfl ?_
    refine qw_aload rfl rfl ?_
    refine qw_invV (rest := []) rfl rfl rfl rfl rfl (Nat.le_of_ble_eq_true rfl) rfl (y_X6_riverName (d := d0) a9 b5 v6 z N (c + 1) t L M q (hqq) (fa4.2.1.2.1) (((fa4.2.1.1 3 (by decide)).trans h3L)) (C2) (hL) (by rw [fr1x L (by omega) (by omega) (by omega) (by omega)]; omega) (by rw [show (a9 L 7).toInt.toNat = (V 0).toNat from by rw [fr1x L (by omega) (by omega) (by omega) (by omega)]; omega]; exact hC.2.2.2.2.1.same (fun k9 hk9 => congrFun (fb1x (L + 1 + 11 + 2 * k9) (by omega) (by omega)) 1))) (fun z13 h9 hq14 => ?_)
    obtain ⟨a15, b16, v17, rfl, fa15, x18, rfl, px18⟩ := hq14
    show f_pq _ _ (50, [some (.inr (.inr (some 6))), some (.inr (.inr (some q))), none], [.inl x18], cH a15 b16 v17) _
    have e7_2 : (a9 L 7).toInt.toNat = (V 0).toNat := by rw [fr1x L (by omega) (by omega) (by omega) (by omega)]; omega
    have s2p : Hid (PSt t z N (c + 2) (nmE t z M (V 0).toNat (c + 1)) x18 a15 b16 v17 ∧ (nmE t z M (V 0).toNat (c + 1) = 0 → (b16 q 1 = lxV fC t z (c + 1) ∧ isNm t z (c + 1) = true))) := by have h9 := px18; rw [e7_2] at h9; exact h9
    have s2w := fa15.2.1.2
    clear px18
    have fr2x : ∀ i, i ≠ 1 → i ≠ 6 → i ≠ q → i ≠ q + 1 → a15 i = a i := fun i h1 h6 hq1 hq2 => (fa15.1 i (by simp only [List.mem_cons, List.not_mem_nil, or_false, not_or]; exact ⟨h1, h6, hq1⟩)).trans (fr1x i h1 h6 hq1 hq2)
    have fb2x : ∀ i, i ≠ 1 → i ≠ q → b16 i = b i := fun i h1 hq1 => (fa15.2.2.2.1 i h1 hq1).trans (fb1x i h1 hq1)
    have f62x : ∀ j, j ≠ 9 → j ≠ 10 → a15 6 j = a 6 j := fun j h8 h9 => (fa15.2.2.1 j h8 h9).trans (f61x j h8 h9)
    have FF2x : FR [1, 6, L, L + 12, L + 13, L + 14, L + 15, L + 16, L + 17, L + 18, L + 19, L + 20, L + 21, L + 22, L + 23] a a15 := FR.tr FF1x (FR.sub fa15.1 SB1)
    have GG2x : ∀ i, i ∉ [2] → v17 i = v i := fun i h => (fa15.2.1.1 i h).trans (GG0x i h)
    refine qw_if_eq rfl (fun c19 => ?_) (fun c19 => ?_)
    · skip
      have Z8 : ¬ rvE t z M (V 0).toNat c = 0 ∧ (a15 6 10).toInt = rvE t z M (V 0).toNat c := by rw [RE, eE_x (s2p.1.not c19).1]; exact s2p.1.not c19
      refine qw_const rfl ?_
      refine qw_istore (lo' := [some (.inr (.inr (some 6))), some (.inr (.inr (some q))), some (.inl 0)]) rfl rfl ?_
      exact loop107 _ 0 a15 b16 v17 (FF2x) (GG2x) (fa15.2.1.2) (f62x) (fr2x) (fb2x) (Or.inr ⟨rfl, Z8⟩)
    · skip
      have T2 := s2p.1.yes c19
      clear c19
      have m2x : (a15 q 8).toInt = -1 ∧ (a15 q 10).toInt = -1 ∧ (a15 q 11).toInt = -1 := ⟨by rw [fa15.2.2.2.2 8 (by decide)]; exact m1x.1, by rw [fa15.2.2.2.2 10 (by decide)]; exact m1x.2.1, by rw [fa15.2.2.2.2 11 (by decide)]; exact m1x.2.2⟩
      refine qw_aload rfl rfl ?_
      refine qw_aload rfl rfl ?_
      refine qw_invV (rest := []) rfl rfl rfl rfl rfl (Nat.le_of_ble_eq_true rfl) rfl (y_X6_riverKind (d := d0) a15 b16 v17 z N (c + 2) t q (hqq) (fa15.2.1.2) (T2.2)) (fun z20 h9 hq21 => ?_)
      obtain ⟨a22, b23, v24, rfl, fa22, x25, rfl, px25⟩ := hq21
      show f_pq _ _ (58, [some (.inr (.inr (some 6))), some (.inr (.inr (some q))), none], [.inl x25], cH a22 b23 v24) _
      have s3p : Hid (PSt t z N (c + 3) (kdE t z (c + 2)) x25 a22 b23 v24 ∧ (kdE t z (c + 2) = 0 → (a22 q 3).toInt = kdF t z (c + 2))) := by have h9 := px25; exact h9
      have s3w := fa22.2.1.2
      clear px25
      have fr3x : ∀ i, i ≠ 1 → i ≠ 6 → i ≠ q → i ≠ q + 1 → a22 i = a i := fun i h1 h6 hq1 hq2 => (fa22.1 i (by simp only [List.mem_cons, List.not_mem_nil, or_false, not_or]; exact ⟨h1, h6, hq1⟩)).trans (fr2x i h1 h6 hq1 hq2)
      have fb3x : ∀ i, i ≠ 1 → i ≠ q → b23 i = b i := fun i h1 hq1 => (fa22.2.2.1.2 i h1).trans (fb2x i h1 hq1)
      have f63x : ∀ j, j ≠ 9 → j ≠ 10 → a22 6 j = a 6 j := fun j h8 h9 => (fa22.2.2.1.1 j h9).trans (f62x j h8 h9)
      have FF3x : FR [1, 6, L, L + 12, L + 13, L + 14, L + 15, L + 16, L + 17, L + 18, L + 19, L + 20, L + 21, L + 22, L + 23] a a22 := FR.tr FF2x (FR.sub fa22.1 SB1)
      have GG3x : ∀ i, i ∉ [2] → v24 i = v i := fun i h => (fa22.2.1.1 i h).trans (GG2x i h)
      refine qw_if_eq rfl (fun c26 => ?_) (fun c26 => ?_)
      · skip
        have Z8 : ¬ rvE t z M (V 0).toNat c = 0 ∧ (a22 6 10).toInt = rvE t z M (V 0).toNat c := by rw [RE, eE_0 T2.1, eE_x (s3p.1.not c26).1]; exact s3p.1.not c26
        refine qw_const rfl ?_
        refine qw_istore (lo' := [some (.inr (.inr (some 6))), some (.inr (.inr (some q))), some (.inl 0)]) rfl rfl ?_
        exact loop107 _ 0 a22 b23 v24 (FF3x) (GG3x) (fa22.2.1.2) (f63x) (fr3x) (fb3x) (Or.inr ⟨rfl, Z8⟩)
      · skip
        have T3 := s3p.1.yes c26
        clear c26
        have m3x : (a22 q 8).toInt = -1 ∧ (a22 q 10).toInt = -1 ∧ (a22 q 11).toInt = -1 := ⟨by rw [fa22.2.2.2 8 (by decide)]; exact m2x.1, by rw [fa22.2.2.2 10 (by decide)]; exact m2x.2.1, by rw [fa22.2.2.2 11 (by decide)]; exact m2x.2.2⟩
        refine qw_aload rfl rfl ?_
        refine qw_aload rfl rfl ?_
        refine qw_invV (rest := []) rfl rfl rfl rfl rfl (Nat.le_of_ble_eq_true rfl) rfl (y_X6_riverCourse (d := d0) a22 b23 v24 z N (c + 3) t q (hqq) (fa22.2.1.2) (T3.2)) (fun z27 h9 hq28 => ?_)
        obtain ⟨a29, b30, v31, rfl, fa29, x32, rfl, px32⟩ := hq28
        show f_pq _ _ (66, [some (.inr (.inr (some 6))), some (.inr (.inr (some q))), none], [.inl x32], cH a29 b30 v31) _
        have s4p : Hid (PSt t z N (c + 9) (rcF t z (c + 3)) x32 a29 b30 v31 ∧ (rcF t z (c + 3) = 0 → ((a29 q 4).toInt = nvT t z (c + 4) ∧ (a29 q 5).toInt = nvT t z (c + 6) ∧ (a29 q 6).toInt = nvT t z (c + 8)))) := by have h9 := px32; exact h9
        have s4w := fa29.2.1.2
        clear px32
        have fr4x : ∀ i, i ≠ 1 → i ≠ 6 → i ≠ q → i ≠ q + 1 → a29 i = a i := fun i h1 h6 hq1 hq2 => (fa29.1 i (by simp only [List.mem_cons, List.not_mem_nil, or_false, not_or]; exact ⟨h1, h6, hq1⟩)).trans (fr3x i h1 h6 hq1 hq2)
        have fb4x : ∀ i, i ≠ 1 → i ≠ q → b30 i = b i := fun i h1 hq1 => (fa29.2.2.1.2 i h1).trans (fb3x i h1 hq1)
        have f64x : ∀ j, j ≠ 9 → j ≠ 10 → a29 6 j = a 6 j := fun j h8 h9 => (fa29.2.2.1.1 j h8 h9).trans (f63x j h8 h9)
        have FF4x : FR [1, 6, L, L + 12, L + 13, L + 14, L + 15, L + 16, L + 17, L + 18, L + 19, L + 20, L + 21, L + 22, L + 23] a a29 := FR.tr FF3x (FR.sub fa29.1 SB1)
        have GG4x : ∀ i, i ∉ [2] → v31 i = v i := fun i h => (fa29.2.1.1 i h).trans (GG3x i h)
        refine qw_if_eq rfl (fun c33 => ?_) (fun c33 => ?_)
        · skip
          have Z8 : ¬ rvE t z M (V 0).toNat c = 0 ∧ (a29 6 10).toInt = rvE t z M (V 0).toNat c := by rw [RE, eE_0 T2.1, eE_0 T3.1, eE_x (s4p.1.not c33).1]; exact s4p.1.not c33
          refine qw_const rfl ?_
          refine qw_istore (lo' := [some (.inr (.inr (some 6))), some (.inr (.inr (some q))), some (.inl 0)]) rfl rfl ?_
          exact loop107 _ 0 a29 b30 v31 (FF4x) (GG4x) (fa29.2.1.2) (f64x) (fr4x) (fb4x) (Or.inr ⟨rfl, Z8⟩)
        · skip
          have T4 := s4p.1.yes c33
          clear c33
          have m4x : (a29 q 8).toInt = -1 ∧ (a29 q 10).toInt = -1 ∧ (a29 q 11).toInt = -1 := ⟨by rw [fa29.2.2.2 8 (by decide) (by decide) (by decide)]; exact m3x.1, by rw [fa29.2.2.2 10 (by decide) (by decide) (by decide)]; exact m3x.2.1, by rw [fa29.2.2.2 11 (by decide) (by decide) (by decide)]; exact m3x.2.2⟩
          refine qw_aload rfl rfl ?_
          refine qw_aload rfl rfl ?_
          refine qw_invV (rest := []) rfl rfl rfl rfl rfl (Nat.le_of_ble_eq_true rfl) rfl (y_X6_riverWater (d := d0) a29 b30 v31 z N (c + 9) t q (hqq) (fa29.2.1.2) (T4.2)) (fun z34 h9 hq35 => ?_)
          obtain ⟨a36, b37, v38, rfl, fa36, x39, rfl, px39⟩ := hq35
          show f_pq _ _ (74, [some (.inr (.inr (some 6))), some (.inr (.inr (some q))), none], [.inl x39], cH a36 b37 v38) _
          have s5p : Hid (PSt t z N (c + 14) (wL t z (c + 9) 4) x39 a36 b37 v38 ∧ (wL t z (c + 9) 4 = 0 → (∀ j, j < 4 → (a36 (q + 1) j).toInt = nvT t z (c + 10 + j)))) := by have h9 := px39; exact h9
          have s5w := fa36.2.1.2
          clear px39
          have fr5x : ∀ i, i ≠ 1 → i ≠ 6 → i ≠ q → i ≠ q + 1 → a36 i = a i := fun i h1 h6 hq1 hq2 => (fa36.1 i (by simp only [List.mem_cons, List.not_mem_nil, or_false, not_or]; exact ⟨h1, h6, hq2⟩)).trans (fr4x i h1 h6 hq1 hq2)
          have fb5x : ∀ i, i ≠ 1 → i ≠ q → b37 i = b i := fun i h1 hq1 => (fa36.2.2.2 i h1).trans (fb4x i h1 hq1)
          have f65x : ∀ j, j ≠ 9 → j ≠ 10 → a36 6 j = a 6 j := fun j h8 h9 => (fa36.2.2.1 j h8 h9).trans (f64x j h8 h9)
          have q5x : a36 q = a29 q := fa36.1 q (by simp only [List.mem_cons, List.not_mem_nil, or_false, not_or]; omega)
          have FF5x : FR [1, 6, L, L + 12, L + 13, L + 14, L + 15, L + 16, L + 17, L + 18, L + 19, L + 20, L + 21, L + 22, L + 23] a a36 := FR.tr FF4x (FR.sub fa36.1 SB2)
          have GG5x : ∀ i, i ∉ [2] → v38 i = v i := fun i h => (fa36.2.1.1 i h).trans (GG4x i h)
          refine qw_if_eq rfl (fun c40 => ?_) (fun c40 => ?_)
          · skip
            have Z8 : ¬ rvE t z M (V 0).toNat c = 0 ∧ (a36 6 10).toInt = rvE t z M (V 0).toNat c := by rw [RE, eE_0 T2.1, eE_0 T3.1, eE_0 T4.1, eE_x (s5p.1.not c40).1]; exact s5p.1.not c40
            refine qw_const rfl ?_
            refine qw_istore (lo' := [some (.inr (.inr (some 6))), some (.inr (.inr (some q))), some (.inl 0)]) rfl rfl ?_
            exact loop107 _ 0 a36 b37 v38 (FF5x) (GG5x) (fa36.2.1.2) (f65x) (fr5x) (fb5x) (Or.inr ⟨rfl, Z8⟩)
          · skip
            have T5 := s5p.1.yes c40
            clear c40
            have m5x : (a36 q 8).toInt = -1 ∧ (a36 q 10).toInt = -1 ∧ (a36 q 11).toInt = -1 := ⟨by rw [q5x]; exact m4x.1, by rw [q5x]; exact m4x.2.1, by rw [q5x]; exact m4x.2.2⟩
            refine qw_aload rfl rfl ?_
            refine qw_aload rfl rfl ?_
            refine qw_invV (rest := []) rfl rfl rfl rfl rfl (Nat.le_of_ble_eq_true rfl) rfl (y_X6_riverMill (d := d0) a36 b37 v38 z N (c + 14) t q (hqq) (fa36.2.1.2) (T5.2)) (fun z41 h9 hq42 => ?_)
            obtain ⟨a43, b44, v45, rfl, fa43, x46, rfl, px46⟩ := hq42
            show f_pq _ _ (82, [some (.inr (.inr (some 6))), some (.inr (.inr (some q))), none], [.inl x46], cH a43 b44 v45) _
            have d4_6 : (a36 q 4).toInt = nvT t z (c + 4) := by rw [q5x]; exact (s4p.2 T4.1).1
            have d5_6 : (a36 q 5).toInt = nvT t z (c + 6) := by rw [q5x]; exact (s4p.2 T4.1).2.1
            have s6p : Hid (PSt t z N (opC t z 5 (c + 14)) (fz (opE t z 5 1 (nvT t z (c + 6)) (nvT t z (c + 4)) (c + 14))) x46 a43 b44 v45 ∧ (fz (opE t z 5 1 (nvT t z (c + 6)) (nvT t z (c + 4)) (c + 14)) = 0 → ((tkW t z (c + 14) 5 → (a43 q 7).toInt = nvT t z (c + 15) ∧ (a43 q 8).toInt = nvT t z (c + 17)) ∧ (¬ tkW t z (c + 14) 5 → a43 q 7 = a36 q 7 ∧ a43 q 8 = a36 q 8)))) := by have h9 := px46; rw [d5_6, d4_6] at h9; exact h9
            have s6w := fa43.2.1.2
            clear px46
            have fr6x : ∀ i, i ≠ 1 → i ≠ 6 → i ≠ q → i ≠ q + 1 → a43 i = a i := fun i h1 h6 hq1 hq2 => (fa43.1 i (by simp only [List.mem_cons, List.not_mem_nil, or_false, not_or]; exact ⟨h1, h6, hq1⟩)).trans (fr5x i h1 h6 hq1 hq2)
            have fb6x : ∀ i, i ≠ 1 → i ≠ q → b44 i = b i := fun i h1 hq1 => (fa43.2.2.1.2 i h1).trans (fb5x i h1 hq1)
            have f66x : ∀ j, j ≠ 9 → j ≠ 10 → a43 6 j = a 6 j := fun j h8 h9 => (fa43.2.2.1.1 j h8 h9).trans (f65x j h8 h9)
            have w6x : a43 (q + 1) = a36 (q + 1) := fa43.1 (q + 1) (by simp only [List.mem_cons, List.not_mem_nil, or_false, not_or]; omega)
            have FF6x : FR [1, 6, L, L + 12, L + 13, L + 14, L + 15, L + 16, L + 17, L + 18, L + 19, L + 20, L + 21, L + 22, L + 23] a a43 := FR.tr FF5x (FR.sub fa43.1 SB1)
            have GG6x : ∀ i, i ∉ [2] → v45 i = v i := fun i h => (fa43.2.1.1 i h).trans (GG5x i h)
            refine qw_if_eq rfl (fun c47 => ?_) (fun c47 => ?_)
            · skip
              have Z8 : ¬ rvE t z M (V 0).toNat c = 0 ∧ (a43 6 10).toInt = rvE t z M (V 0).toNat c := by rw [RE, eE_0 T2.1, eE_0 T3.1, eE_0 T4.1, eE_0 T5.1, eE_x (s6p.1.not c47).1]; exact s6p.1.not c47
              refine qw_const rfl ?_
              refine qw_istore (lo' := [some (.inr (.inr (some 6))), some (.inr (.inr (some q))), some (.inl 0)]) rfl rfl ?_
              exact loop107 _ 0 a43 b44 v45 (FF6x) (GG6x) (fa43.2.1.2) (f66x) (fr6x) (fb6x) (Or.inr ⟨rfl, Z8⟩)
            · skip
              have T6 := s6p.1.yes c47
              clear c47
              have m6x : (a43 q 10).toInt = -1 ∧ (a43 q 11).toInt = -1 := ⟨by rw [fa43.2.2.2 10 (by decide) (by decide)]; exact m5x.2.1, by rw [fa43.2.2.2 11 (by decide) (by decide)]; exact m5x.2.2⟩
              refine qw_aload rfl rfl ?_
              refine qw_aload rfl rfl ?_
              refine qw_invV (rest := []) rfl rfl rfl rfl rfl (Nat.le_of_ble_eq_true rfl) rfl (y_X6_riverTown (d := d0) a43 b44 v45 z N (opC t z 5 (c + 14)) t q (hqq) (fa43.2.1.2) (T6.2)) (fun z48 h9 hq49 => ?_)
              obtain ⟨a50, b51, v52, rfl, fa50, x53, rfl, px53⟩ := hq49
              show f_pq _ _ (90, [some (.inr (.inr (some 6))), some (.inr (.inr (some q))), none], [.inl x53], cH a50 b51 v52) _
              have d4_7 : (a43 q 4).toInt = nvT t z (c + 4) := by rw [fa43.2.2.2 4 (by decide) (by decide), q5x]; exact (s4p.2 T4.1).1
              have d5_7 : (a43 q 5).toInt = nvT t z (c + 6) := by rw [fa43.2.2.2 5 (by decide) (by decide), q5x]; exact (s4p.2 T4.1).2.1
              have s7p : Hid (PSt t z N (opC t z 6 (opC t z 5 (c + 14))) (fz (opE t z 6 0 (nvT t z (c + 6)) (nvT t z (c + 4)) (opC t z 5 (c + 14)))) x53 a50 b51 v52 ∧ (fz (opE t z 6 0 (nvT t z (c + 6)) (nvT t z (c + 4)) (opC t z 5 (c + 14))) = 0 → ((tkW t z (opC t z 5 (c + 14)) 6 → (a50 q 9).toInt = nvT t z (opC t z 5 (c + 14) + 1) ∧ (a50 q 10).toInt = nvT t z (opC t z 5 (c + 14) + 3)) ∧ (¬ tkW t z (opC t z 5 (c + 14)) 6 → a50 q 9 = a43 q 9 ∧ a50 q 10 = a43 q 10)))) := by have h9 := px53; rw [d5_7, d4_7] at h9; exact h9
              have s7w := fa50.2.1.2
              clear px53
              have fr7x : ∀ i, i ≠ 1 → i ≠ 6 → i ≠ q → i ≠ q + 1 → a50 i = a i := fun i h1 h6 hq1 hq2 => (fa50.1 i (by simp only [List.mem_cons, List.not_mem_nil, or_false, not_or]; exact ⟨h1, h6, hq1⟩)).trans (fr6x i h1 h6 hq1 hq2)
              have fb7x : ∀ i, i ≠ 1 → i ≠ q → b51 i = b i := fun i h1 hq1 => (fa50.2.2.1.2 i h1).trans (fb6x i h1 hq1)
              have f67x : ∀ j, j ≠ 9 → j ≠ 10 → a50 6 j = a 6 j := fun j h8 h9 => (fa50.2.2.1.1 j h8 h9).trans (f66x j h8 h9)
              have w7x : a50 (q + 1) = a43 (q + 1) := fa50.1 (q + 1) (by simp only [List.mem_cons, List.not_mem_nil, or_false, not_or]; omega)
              have FF7x : FR [1, 6, L, L + 12, L + 13, L + 14, L + 15, L + 16, L + 17, L + 18, L + 19, L + 20, L + 21, L + 22, L + 23] a a50 := FR.tr FF6x (FR.sub fa50.1 SB1)
              have GG7x : ∀ i, i ∉ [2] → v52 i = v i := fun i h => (fa50.2.1.1 i h).trans (GG6x i h)
              refine qw_if_eq rfl (fun c54 => ?_) (fun c54 => ?_)
              · skip
                have Z8 : ¬ rvE t z M (V 0).toNat c = 0 ∧ (a50 6 10).toInt = rvE t z M (V 0).toNat c := by rw [RE, eE_0 T2.1, eE_0 T3.1, eE_0 T4.1, eE_0 T5.1, eE_0 T6.1, eE_x (s7p.1.not c54).1]; exact s7p.1.not c54
                refine qw_const rfl ?_
                refine qw_istore (lo' := [some (.inr (.inr (some 6))), some (.inr (.inr (some q))), some (.inl 0)]) rfl rfl ?_
                exact loop107 _ 0 a50 b51 v52 (FF7x) (GG7x) (fa50.2.1.2) (f67x) (fr7x) (fb7x) (Or.inr ⟨rfl, Z8⟩)
              · skip
                have T7 := s7p.1.yes c54
                clear c54
                have m7x : (a50 q 11).toInt = -1 := by rw [fa50.2.2.2 11 (by decide) (by decide)]; exact m6x.2
                refine qw_aload rfl rfl ?_
                refine qw_aload rfl rfl ?_
                refine qw_invV (rest := []) rfl rfl rfl rfl rfl (Nat.le_of_ble_eq_true rfl) rfl (y_X6_riverMother (d := d0) a50 b51 v52 z N (opC t z 6 (opC t z 5 (c + 14))) t L M q (hqq) (fa50.2.1.2) (((fa50.2.1.1 3 (by decide)).trans ((fa43.2.1.1 3 (by decide)).trans ((fa36.2.1.1 3 (by decide)).trans ((fa29.2.1.1 3 (by decide)).trans ((fa22.2.1.1 3 (by decide)).trans ((fa15.2.1.1 3 (by decide)).trans ((fa4.2.1.1 3 (by decide)).trans h3L)))))))) (T7.2) (hL) (by rw [fr7x L (by omega) (by omega) (by omega) (by omega)]; omega) (by rw [show (a50 L 7).toInt.toNat = (V 0).toNat from by rw [fr7x L (by omega) (by omega) (by omega) (by omega)]; omega]; exact hC.2.2.2.2.1.same (fun k9 hk9 => congrFun (fb7x (L + 1 + 11 + 2 * k9) (by omega) (by omega)) 1))) (fun z55 h9 hq56 => ?_)
                obtain ⟨a57, b58, v59, rfl, fa57, x60, rfl, px60⟩ := hq56
                show f_pq _ _ (98, [some (.inr (.inr (some 6))), some (.inr (.inr (some q))), none], [.inl x60], cH a57 b58 v59) _
                have e7_8 : (a50 L 7).toInt.toNat = (V 0).toNat := by rw [fr7x L (by omega) (by omega) (by omega) (by omega)]; omega
                have s8p : Hid (PSt t z N (rvC t z c) (fz (ofE t z M (V 0).toNat (opC t z 6 (opC t z 5 (c + 14))))) x60 a57 b58 v59 ∧ (fz (ofE t z M (V 0).toNat (opC t z 6 (opC t z 5 (c + 14)))) = 0 → ((tkW t z (opC t z 6 (opC t z 5 (c + 14))) 8 → (a57 q 11).toInt = fnd M (lxV fM t z (opC t z 6 (opC t z 5 (c + 14)) + 1)) (V 0).toNat) ∧ (¬ tkW t z (opC t z 6 (opC t z 5 (c + 14))) 8 → a57 q 11 = a50 q 11)))) := by have h9 := px60; rw [e7_8] at h9; exact h9
                have s8w := fa57.2.1.2
                clear px60
                have fr8x : ∀ i, i ≠ 1 → i ≠ 6 → i ≠ q → i ≠ q + 1 → a57 i = a i := fun i h1 h6 hq1 hq2 => (fa57.1 i (by simp only [List.mem_cons, List.not_mem_nil, or_false, not_or]; exact ⟨h1, h6, hq1⟩)).trans (fr7x i h1 h6 hq1 hq2)
                have fb8x : ∀ i, i ≠ 1 → i ≠ q → b58 i = b i := fun i h1 hq1 => (fa57.2.2.1.2 i h1).trans (fb7x i h1 hq1)
                have f68x : ∀ j, j ≠ 9 → j ≠ 10 → a57 6 j = a 6 j := fun j h8 h9 => (fa57.2.2.1.1 j h8 h9).trans (f67x j h8 h9)
                have w8x : a57 (q + 1) = a50 (q + 1) := fa57.1 (q + 1) (by simp only [List.mem_cons, List.not_mem_nil, or_false, not_or]; omega)
                have FF8x : FR [1, 6, L, L + 12, L + 13, L + 14, L + 15, L + 16, L + 17, L + 18, L + 19, L + 20, L + 21, L + 22, L + 23] a a57 := FR.tr FF7x (FR.sub fa57.1 SB1)
                have GG8x : ∀ i, i ∉ [2] → v59 i = v i := fun i h => (fa57.2.1.1 i h).trans (GG7x i h)
                refine qw_if_eq rfl (fun c61 => ?_) (fun c61 => ?_)
                · skip
                  have Z8 : ¬ rvE t z M (V 0).toNat c = 0 ∧ (a57 6 10).toInt = rvE t z M (V 0).toNat c := by rw [RE, eE_0 T2.1, eE_0 T3.1, eE_0 T4.1, eE_0 T5.1, eE_0 T6.1, eE_0 T7.1]; exact s8p.1.not c61
                  refine qw_const rfl ?_
                  refine qw_istore (lo' := [some (.inr (.inr (some 6))), some (.inr (.inr (some q))), some (.inl 0)]) rfl rfl ?_
                  exact loop107 _ 0 a57 b58 v59 (FF8x) (GG8x) (fa57.2.1.2) (f68x) (fr8x) (fb8x) (Or.inr ⟨rfl, Z8⟩)
                · skip
                  have T8 := s8p.1.yes c61
                  clear c61
                  refine qw_const rfl ?_
                  refine qw_goto rfl ?_
                  refine qw_istore (lo' := [some (.inr (.inr (some 6))), some (.inr (.inr (some q))), some (.inl 1)]) rfl rfl ?_
                  exact loop107 _ 1 a57 b58 v59 (FF8x) (GG8x) (fa57.2.1.2) (f68x) (fr8x) (fb8x) (Or.inl ⟨rfl, ⟨⟨by rw [fa57.2.2.2 3 (by decide), fa50.2.2.2 3 (by decide) (by decide), fa43.2.2.2 3 (by decide) (by decide), q5x, fa29.2.2.2 3 (by decide) (by decide) (by decide)]; exact s3p.2 T3.1, by rw [fa57.2.2.2 4 (by decide), fa50.2.2.2 4 (by decide) (by decide), fa43.2.2.2 4 (by decide) (by decide), q5x]; exact (s4p.2 T4.1).1, by rw [fa57.2.2.2 5 (by decide), fa50.2.2.2 5 (by decide) (by decide), fa43.2.2.2 5 (by decide) (by decide), q5x]; exact (s4p.2 T4.1).2.1, by rw [fa57.2.2.2 6 (by decide), fa50.2.2.2 6 (by decide) (by decide), fa43.2.2.2 6 (by decide) (by decide), q5x]; exact (s4p.2 T4.1).2.2, fun k hk => by rw [w8x, w7x, w6x]; (rcases (by omega : k = 0 ∨ k = 1 ∨ k = 2 ∨ k = 3) with h | h | h | h); (subst h; exact s5p.2 T5.1 0 (by decide)); (subst h; exact s5p.2 T5.1 1 (by decide)); (subst h; exact s5p.2 T5.1 2 (by decide)); (subst h; exact s5p.2 T5.1 3 (by decide)), (by by_cases h9 : tkW t z (c + 14) 5; exact Or.inr ⟨by rw [fa57.2.2.2 7 (by decide), fa50.2.2.2 7 (by decide) (by decide)]; exact ((s6p.2 T6.1).1 h9).1.trans (if_pos h9).symm, by rw [fa57.2.2.2 8 (by decide), fa50.2.2.2 8 (by decide) (by decide)]; exact ((s6p.2 T6.1).1 h9).2.trans (if_pos h9).symm⟩; exact Or.inl ⟨if_neg h9, by rw [fa57.2.2.2 8 (by decide), fa50.2.2.2 8 (by decide) (by decide)]; rw [((s6p.2 T6.1).2 h9).2]; exact m5x.1⟩), (by by_cases h9 : tkW t z (opC t z 5 (c + 14)) 6; exact Or.inr ⟨by rw [fa57.2.2.2 9 (by decide)]; exact ((s7p.2 T7.1).1 h9).1.trans (if_pos h9).symm, by rw [fa57.2.2.2 10 (by decide)]; exact ((s7p.2 T7.1).1 h9).2.trans (if_pos h9).symm⟩; exact Or.inl ⟨if_neg h9, by rw [fa57.2.2.2 10 (by decide)]; rw [((s7p.2 T7.1).2 h9).2]; exact m6x.1⟩), (by by_cases h9 : tkW t z (opC t z 6 (opC t z 5 (c + 14))) 8; (rw [(s8p.2 T8.1).1 h9]; refine Eq.trans ?_ (if_pos h9).symm; exact fnd_same _ (fun k hk => (if_neg (by omega)).symm)); (rw [(s8p.2 T8.1).2 h9]; exact m7x.trans (if_neg h9).symm))⟩, by rw [fa57.2.2.1.2 q (by omega), fa50.2.2.1.2 q (by omega), fa43.2.2.1.2 q (by omega), fa36.2.2.2 q (by omega), fa29.2.2.1.2 q (by omega), fa22.2.2.1.2 q (by omega)]; exact (s2p.2 T2.1).1, (s2p.2 T2.1).2⟩, T8.2, by rw [RE, eE_0 T2.1, eE_0 T3.1, eE_0 T4.1, eE_0 T5.1, eE_0 T6.1, eE_0 T7.1]; exact T8.1⟩)
  · skip
    refine qw_aload rfl rfl ?_
    refine qw_const rfl ?_
    refine qw_invV (rest := []) rfl rfl rfl rfl rfl (Nat.le_of_ble_eq_true rfl) rfl (y_X6_fail (d := d0) a b v  5 (by omega) (by omega)) (fun z62 h9 hq63 => ?_)
    obtain ⟨a64, rfl, fa64, x65, rfl, px65⟩ := hq63
    show f_pq _ _ (17, [some (.inr (.inr (some 6))), none, none], [.inl x65], cH a64 b v) _
    have F8 := fa64.2.2
    have z8 := px65
    have DX : rvE t z M (V 0).toNat c = flt t z c 5 := if_pos (by omega)
    have Z8 : ¬ rvE t z M (V 0).toNat c = 0 ∧ (a64 6 10).toInt = rvE t z M (V 0).toNat c := by rw [DX]; exact ⟨flt_p (by decide), by rw [F8]; show _ = (5 : Int) + 16 * (lxP t z c : Int); have l9 : (5 : Int32).toInt = 5 := rfl; omega⟩
    have F6x := fa64.2
    exact qwp_iret (z := true) rfl (fun _ => by first | exact Or.inl rfl | exact Or.inr rfl | (rcases (by omega : g.toInt = 0 ∨ g.toInt = 1) with h8 | h8; exact Or.inl (Int32.toInt_inj.mp h8); exact Or.inr (Int32.toInt_inj.mp h8)) | exact Or.inl (Int32.toInt_inj.mp (z8.trans (by rfl)))) ⟨a64, b, v, rfl, ⟨FR.tr (FR.rf) (FR.sub fa64.1 (by first | exact (fun _ h9 => h9) | decide | (intro c9 h9; simp only [List.mem_cons, List.not_mem_nil, or_false] at h9 ⊢; omega) | (intro c9 h9; simp only [List.mem_cons, List.not_mem_nil, or_false] at h9; exact cA_mem (by omega)) | (intro c9 h9; simp only [List.mem_cons, List.not_mem_nil, or_false] at h9; exact cB_mem (by omega)) | exact cA_sub)), ⟨(fun _ _ => rfl), hw⟩, fun j h8 h9 => F6x.1 j h9⟩, ⟨_, rfl, ⟨PSt.fl z8 Z8 rfl, fun h => absurd h Z8.1⟩⟩⟩
