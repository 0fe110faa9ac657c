set_option maxHeartbeats 2000000 in
set_option maxRecDepth 4000 in
theorem y_X6_readLand {d : Nat} (a : Nat → Nat → Int32) (b : Nat → Nat → Int64) (v : Nat → Option Nat) (K : Nat) (t : Nat → Int32) (z : Nat) (L : Nat) (hd9 : 9 ≤ d) (hR : RC K a) (hL : L = 22 ∨ L = 46) (hf : ∀ j : Nat, (j : Int) < (a 1 6).toInt → 0 ≤ (a 2 j).toInt ∧ (a 2 j).toInt ≤ 127) (ht : a 2 = t) (hz0 : (a 1 6).toInt.toNat = z) : f_pc mtC d 41 [.inr (.inr (some 6)), .inr (.inr (some L))] (cH a b v) (fun v9 h' => ∃ (a' : Nat → Nat → Int32) (b' : Nat → Nat → Int64) (v' : Nat → Option Nat), h' = cH a' b' v' ∧ (FR [1, 3, 4, 6, L, L + 2, L + 3, L + 4, L + 5, L + 6, L + 7, L + 8, L + 9, L + 10, L + 11, L + 12, L + 13, L + 14, L + 15, L + 16, L + 17, L + 18, L + 19, L + 20, L + 21, L + 22, L + 23] a a' ∧ ((∀ i, i ∉ [2, 3, 4] → v' i = v i) ∧ True) ∧ True) ∧ ∃ x : Int32, v9 = some (.inl x) ∧ (LDF t z L x.toInt a' b')) := by
  refine f_pc_of rfl (fun d0 fu hd => ?_)
  show f_pq _ _ (0, [some (.inr (.inr (some 6))), some (.inr (.inr (some L))), none], [], cH a b v) _
  have l0 : (0 : Int32).toInt = 0 := rfl
  have l1 : (1 : Int32).toInt = 1 := rfl
  have l1000 : (1000 : Int32).toInt = 1000 := rfl
  have z6 : 0 ≤ (a 1 6).toInt ∧ (a 1 6).toInt ≤ 1000 := hR 1 6
  have z9 : z ≤ 1000 := by omega
  refine qw_aload rfl rfl ?_
  refine qw_aload rfl rfl ?_
  refine qw_invV (rest := []) rfl rfl rfl rfl rfl (Nat.le_of_ble_eq_true rfl) rfl (y_X6_begin (d := d0) (K := K) a b v L t z (by omega) hR hL hf ht hz0) (fun z1 h9 hq2 => ?_)
  obtain ⟨a3, b4, v5, rfl, fa3, rfl⟩ := hq2
  show f_pq _ _ (5, [some (.inr (.inr (some 6))), some (.inr (.inr (some L))), none], [], cH a3 b4 v5) _
  obtain ⟨N, hN⟩ := fa3.2.1.2.2.2
  have C0 : CSt t z N 0 a3 b4 v5 := ⟨hN, fa3.2.2, z9⟩
  refine qw_aload rfl rfl ?_
  refine qw_invV (rest := []) rfl rfl (sh_land (by omega)) rfl rfl (Nat.le_of_ble_eq_true rfl) rfl (y_X3_clear (d := d0) a3 b4 v5  L (by omega)) (fun z6 h9 hq7 => ?_)
  obtain ⟨a8, rfl, fa8, rfl⟩ := hq7
  show f_pq _ _ (9, [some (.inr (.inr (some 6))), some (.inr (.inr (some L))), none], [], cH a8 b4 v5) _
  have C1 := C0.fr (a' := a8) (fa8.1 1 (by simp only [List.mem_cons, List.not_mem_nil, or_false, not_or]; omega)) (fa8.1 3 (by simp only [List.mem_cons, List.not_mem_nil, or_false, not_or]; omega)) (fa8.1 4 (by simp only [List.mem_cons, List.not_mem_nil, or_false, not_or]; omega)) (by rw [fa8.1 6 (by simp only [List.mem_cons, List.not_mem_nil, or_false, not_or]; omega)])
  have Z1 : CLN t z L (fun _ => 0) (fun _ => 0) a8 b4 := CLN.zero fa8.2
  refine qw_aload rfl rfl ?_
  refine qw_const rfl ?_
  refine qc_putI (z := false) rfl rfl rfl rfl (by first | (intro h9; cases h9; done) | (intro _; first | exact Or.inl rfl | exact Or.inr rfl | assumption | (rcases (by omega : (0 : Int32).toInt = 0 ∨ (0 : Int32).toInt = 1) with h8 | h8; exact Or.inl (ti_eq h8); exact Or.inr (ti_eq h8)))) (fun a9 ea9 => ?_)
  have ua9 : a9 6 8 = (0 : Int32) := by rw [ea9, mU_same]
  have wa9 := congrArg Int32.toInt ua9
  have C2 := C1.fr (a' := a9) (by rw [ea9, mU_cell (by decide)]) (by rw [ea9, mU_cell (by decide)]) (by rw [ea9, mU_cell (by decide)]) (by rw [ea9, mU_slot (by decide)])
  have Z2 : CLN t z L (fun _ => 0) (fun _ => 0) a9 b4 := Z1.same hL (fun i9 h9 => by rw [ea9, mU_cell (by omega)]) (fun _ _ => rfl)
  have O2 : OB (fun _ => false) (a9 6 8) := by rw [ea9, mU_same]; exact OB.zero
  have loop48 : ∀ (fuJ48 : Nat)  (a48 : Nat → Nat → Int32) (b48 : Nat → Nat → Int64) (v48 : Nat → Option Nat) (o2_48 : Option f_V),  FR [1, 3, 4, 6, L, L + 2, L + 3, L + 4, L + 5, L + 6, L + 7, L + 8, L + 9, L + 10, L + 11, L + 12, L + 13, L + 14, L + 15, L + 16, L + 17, L + 18, L + 19, L + 20, L + 21, L + 22, L + 23] a a48 → (∀ i, i ∉ [2, 3, 4] → v48 i = v i) → (LDE t z L (a48 6 10).toInt a48 b48) → f_pq (f_code (t_X6_readLand (f_ev mtC d0))) fuJ48 (48, [some (.inr (.inr (some 6))), some (.inr (.inr (some L))), o2_48], [], cH a48 b48 v48) (fun v9 h' => ∃ (a' : Nat → Nat → Int32) (b' : Nat → Nat → Int64) (v' : Nat → Option Nat), h' = cH a' b' v' ∧ (FR [1, 3, 4, 6, L, L + 2, L + 3, L + 4, L + 5, L + 6, L + 7, L + 8, L + 9, L + 10, L + 11, L + 12, L + 13, L + 14, L + 15, L + 16, L + 17, L + 18, L + 19, L + 20, L + 21, L + 22, L + 23] a a' ∧ ((∀ i, i ∉ [2, 3, 4] → v' i = v i) ∧ True) ∧ True) ∧ ∃ x : Int32, v9 = some (.inl x) ∧ (LDF t z L x.toInt a' b')) := by
    intro fuJ48  a48 b48 v48 o2_48 hF48 hG48 hX
    · skip
      refine qw_aload rfl rfl ?_
      refine qc_getI rfl rfl rfl rfl ?_
      refine qw_if_ne rfl (fun c10 => ?_) (fun c10 => ?_)
      · skip
        obtain ⟨s8, S8, T8⟩ := id hX
        have S7 := S8
        rw [c10] at S7
        have T8 := T8 c10
        have G8 : GV s8.2.1 := LD.gv S7
        refine qw_aload rfl rfl ?_
        refine qw_invV (rest := []) rfl rfl (sh_land (by omega)) rfl rfl (Nat.le_of_ble_eq_true rfl) rfl (y_X3_settle_1 (d := d0) a48 b48 v48 s8.2.1 L (hL) (T8.ci) (G8)) (fun z11 h9 hq12 => ?_)
        obtain ⟨a13, rfl, fa13, rfl⟩ := hq12
        show f_pq _ _ (59, [some (.inr (.inr (some 6))), some (.inr (.inr (some L))), o2_48], [], cH a13 b48 v48) _
        refine qw_aload rfl rfl ?_
        refine qc_getI rfl rfl rfl rfl ?_
        exact qwp_iret (z := false) rfl (fun h9 => by cases h9) ⟨a13, b48, v48, rfl, ⟨FR.tr (hF48) (FR.sub fa13.1 (by first | exact (fun _ h9 => h9) | decide | (intro c9 h9; simp only [List.mem_cons, List.not_mem_nil, or_false] at h9 ⊢; omega) | (intro c9 h9; simp only [List.mem_cons, List.not_mem_nil, or_false] at h9; exact cA_mem (by omega)) | (intro c9 h9; simp only [List.mem_cons, List.not_mem_nil, or_false] at h9; exact cB_mem (by omega)) | exact cA_sub)), ⟨hG48, trivial⟩, trivial⟩, ⟨_, rfl, by rw [fa13.1 6 (by simp only [List.mem_cons, List.not_mem_nil, or_false, not_or]; omega)]; exact ⟨s8, S8, fun _ => ⟨T8.same hL (fun i9 h9 => fa13.1 i9 (by simp only [List.mem_cons, List.not_mem_nil, or_false, not_or]; omega)) (fun _ _ => rfl), fa13.2⟩⟩⟩⟩
      · skip
        refine qw_aload rfl rfl ?_
        refine qc_getI rfl rfl rfl rfl ?_
        exact qwp_iret (z := false) rfl (fun h9 => by cases h9) ⟨a48, b48, v48, rfl, ⟨hF48, ⟨hG48, trivial⟩, trivial⟩, ⟨_, rfl, hX.nf (by omega)⟩⟩
  refine qw_const rfl ?_
  refine qw_istore (lo' := [some (.inr (.inr (some 6))), some (.inr (.inr (some L))), some (.inl 0)]) rfl rfl ?_
  have loop16 : ∀ (fu16 : Nat) (k : Int32) (a16 : Nat → Nat → Int32) (b16 : Nat → Nat → Int64) (v16 : Nat → Option Nat) ,  FR [1, 3, 4, 6, L, L + 2, L + 3, L + 4, L + 5, L + 6, L + 7, L + 8, L + 9, L + 10, L + 11, L + 12, L + 13, L + 14, L + 15, L + 16, L + 17, L + 18, L + 19, L + 20, L + 21, L + 22, L + 23] a a16 → (∀ i, i ∉ [2, 3, 4] → v16 i = v i) → (0 ≤ k.toInt ∧ k.toInt ≤ 1001) → (f_wdb (v16 2) = true) → (v16 3 = some L) → (LDC t z N L k.toInt a16 b16 v16) → f_pq (f_code (t_X6_readLand (f_ev mtC d0))) fu16 (16, [some (.inr (.inr (some 6))), some (.inr (.inr (some L))), some (.inl k)], [], cH a16 b16 v16) (fun v9 h' => ∃ (a' : Nat → Nat → Int32) (b' : Nat → Nat → Int64) (v' : Nat → Option Nat), h' = cH a' b' v' ∧ (FR [1, 3, 4, 6, L, L + 2, L + 3, L + 4, L + 5, L + 6, L + 7, L + 8, L + 9, L + 10, L + 11, L + 12, L + 13, L + 14, L + 15, L + 16, L + 17, L + 18, L + 19, L + 20, L + 21, L + 22, L + 23] a a' ∧ ((∀ i, i ∉ [2, 3, 4] → v' i = v i) ∧ True) ∧ True) ∧ ∃ x : Int32, v9 = some (.inl x) ∧ (LDF t z L x.toInt a' b')) := by
    intro fu16
    induction fu16 with
    | zero => intros; exact pq_0
    | succ fu16 ih16 =>
      intro k a16 b16 v16  hF16 hG16 hk hw9 h39 hW
      refine qw_iload rfl rfl ?_
      refine qw_const rfl ?_
      refine qw_ic_gt rfl (fun c14 => ?_) (fun c14 => ?_)
      · skip
        have E9 := hW.end2 (by omega)
        exact loop48 _ a16 b16 v16 (some (.inl k)) (hF16) (hG16) (E9)
      · skip
        refine qw_aload rfl rfl ?_
        refine qw_invV (rest := []) rfl rfl rfl rfl rfl (Nat.le_of_ble_eq_true rfl) rfl (y_X6_goesOn (d := d0) a16 b16 v16   ) (fun z15 h9 hq16 => ?_)
        obtain ⟨rfl, x17, rfl, px17⟩ := hq16
        show f_pq _ _ (27, [some (.inr (.inr (some 6))), some (.inr (.inr (some L))), some (.inl k)], [.inl x17], cH a16 b16 v16) _
        have G9 := px17
        refine qw_if_eq rfl (fun c18 => ?_) (fun c18 => ?_)
        · skip
          have E9 := hW.end1 (by rcases G9 with h | h; omega; exact h.2)
          exact loop48 _ a16 b16 v16 (some (.inl k)) (hF16) (hG16) (E9)
        · skip
          have G8 : (a16 6 10).toInt = 0 ∧ ¬ (a16 1 7).toInt = 0 := by rcases G9 with h | h; exact h.2; omega
          obtain ⟨s, q1, q2, q3, q4, q5⟩ := hW.resolve_right (fun ⟨s8, F8, u1, u2, _⟩ => u1 (by omega))
          have k0 : ¬ lxK t z s.1 = 0 := fun h9 => by have h8 := q2.1.kin.mpr h9; omega
          refine qw_aload rfl rfl ?_
          refine qw_invV (rest := []) rfl rfl rfl rfl rfl (Nat.le_of_ble_eq_true rfl) rfl (y_X6_landLine (d := d0) a16 b16 v16 z N s.1 t L s.2.1 s.2.2.1 s.2.2.2  (hw9) (h39) (hL) (q2) (q3) (q4) (k0)) (fun z19 h9 hq20 => ?_)
          obtain ⟨a21, b22, v23, rfl, fa21, x24, rfl, px24⟩ := hq20
          show f_pq _ _ (34, [some (.inr (.inr (some 6))), some (.inr (.inr (some L))), some (.inl k)], [.inl x24], cH a21 b22 v23) _
          obtain ⟨r, r1, r2, r3⟩ := px24
          have w7 := fa21.2.1.2
          refine qw_if_eq rfl (fun c25 => ?_) (fun c25 => ?_)
          · skip
            have B9 := LDC.bad (L := L) (k := k.toInt + 1) k0 q5 r1 r2 c25
            refine qw_iinc (lo' := fun z9 => [some (.inr (.inr (some 6))), some (.inr (.inr (some L))), some (.inl z9)]) rfl rfl (fun _ => rfl) (by omega) (fun x26 tx26 => ?_)
            exact qw_gotoD rfl (ih16 x26 a21 b22 v23 (FR.tr (hF16) (FR.sub fa21.1 (by first | exact (fun _ h9 => h9) | decide | (intro c9 h9; simp only [List.mem_cons, List.not_mem_nil, or_false] at h9 ⊢; omega) | (intro c9 h9; simp only [List.mem_cons, List.not_mem_nil, or_false] at h9; exact cA_mem (by omega)) | (intro c9 h9; simp only [List.mem_cons, List.not_mem_nil, or_false] at h9; exact cB_mem (by omega)) | exact cA_sub))) (fun i9 h9 => (fa21.2.1.1 i9 (fun z9 => h9 (by first | exact z9 | (revert z9; simp; done) | (revert z9; simp; omega)))).trans ((show ∀ i9, i9 ∉ [2, 3, 4] → v16 i9 = v i9 from hG16) i9 h9)) (by omega) (fa21.2.1.2) (((fa21.2.1.1 3 (by decide)).trans h39)) (by rw [show (x26).toInt = k.toInt + 1 from by omega]; exact B9))
          · skip
            have T1 := r2.yes c25
            have D1 := r3 T1.1
            refine qw_aload rfl rfl ?_
            refine qw_invV (rest := []) rfl rfl rfl rfl rfl (Nat.le_of_ble_eq_true rfl) rfl (y_X6_lineEnd (d := d0) a21 b22 v23 z N r.2.1 t  (fa21.2.1.2) (T1.2)) (fun z27 h9 hq28 => ?_)
            obtain ⟨a29, b30, v31, rfl, fa29, x32, rfl, px32⟩ := hq28
            show f_pq _ _ (41, [some (.inr (.inr (some 6))), some (.inr (.inr (some L))), some (.inl k)], [.inl x32], cH a29 b30 v31) _
            have P9 := px32
            have w8x := fa29.2.1.2
            refine qw_pop rfl rfl ?_
            refine qw_iinc (lo' := fun z9 => [some (.inr (.inr (some 6))), some (.inr (.inr (some L))), some (.inl z9)]) rfl rfl (fun _ => rfl) (by omega) (fun x33 tx33 => ?_)
            exact qw_gotoD rfl (ih16 x33 a29 b30 v31 (FR.tr (FR.tr (hF16) (FR.sub fa21.1 (by first | exact (fun _ h9 => h9) | decide | (intro c9 h9; simp only [List.mem_cons, List.not_mem_nil, or_false] at h9 ⊢; omega) | (intro c9 h9; simp only [List.mem_cons, List.not_mem_nil, or_false] at h9; exact cA_mem (by omega)) | (intro c9 h9; simp only [List.mem_cons, List.not_mem_nil, or_false] at h9; exact cB_mem (by omega)) | exact cA_sub))) (FR.sub fa29.1 (by first | exact (fun _ h9 => h9) | decide | (intro c9 h9; simp only [List.mem_cons, List.not_mem_nil, or_false] at h9 ⊢; omega) | (intro c9 h9; simp only [List.mem_cons, List.not_mem_nil, or_false] at h9; exact cA_mem (by omega)) | (intro c9 h9; simp only [List.mem_cons, List.not_mem_nil, or_false] at h9; exact cB_mem (by omega)) | exact cA_sub))) (fun i9 h9 => (fa29.2.1.1 i9 (fun z9 => h9 (by first | exact z9 | (revert z9; simp; done) | (revert z9; simp; omega)))).trans ((show ∀ i9, i9 ∉ [2, 3, 4] → v23 i9 = v i9 from fun i9 h9 => (fa21.2.1.1 i9 (fun z9 => h9 (by first | exact z9 | (revert z9; simp; done) | (revert z9; simp; omega)))).trans ((show ∀ i9, i9 ∉ [2, 3, 4] → v16 i9 = v i9 from hG16) i9 h9)) i9 h9)) (by omega) (fa29.2.1.2) (((fa29.2.1.1 3 (by decide)).trans ((fa21.2.1.1 3 (by decide)).trans h39))) (LDC.step hL k0 q5 r1 T1.1 q1 D1.1 D1.2 P9 fa29.1 fa29.2.2.1 fa29.2.2.2 (by omega)))
  exact loop16 _ 0 a9 b4 v5 (FR.up (FR.tr (FR.tr (FR.rf) (FR.sub fa3.1 (by first | exact (fun _ h9 => h9) | decide | (intro c9 h9; simp only [List.mem_cons, List.not_mem_nil, or_false] at h9 ⊢; omega) | (intro c9 h9; simp only [List.mem_cons, List.not_mem_nil, or_false] at h9; exact cA_mem (by omega)) | (intro c9 h9; simp only [List.mem_cons, List.not_mem_nil, or_false] at h9; exact cB_mem (by omega)) | exact cA_sub))) (FR.sub fa8.1 (by first | exact (fun _ h9 => h9) | decide | (intro c9 h9; simp only [List.mem_cons, List.not_mem_nil, or_false] at h9 ⊢; omega) | (intro c9 h9; simp only [List.mem_cons, List.not_mem_nil, or_false] at h9; exact cA_mem (by omega)) | (intro c9 h9; simp only [List.mem_cons, List.not_mem_nil, or_false] at h9; exact cB_mem (by omega)) | exact cA_sub))) (by first | decide | (simp; done) | exact cA_mem (by omega) | exact cB_mem (by omega)) ea9) (fun i9 h9 => (fa3.2.1.1 i9 (fun z9 => h9 (by first | exact z9 | (revert z9; simp; done) | (revert z9; simp; omega)))).trans ((show ∀ i9, i9 ∉ [2, 3, 4] → v i9 = v i9 from (fun _ _ => rfl)) i9 h9)) (by omega) (fa3.2.1.2.1) (fa3.2.1.2.2.1) (Or.inl ⟨ld0, by decide, C2, Z2, O2, fun _ h => h⟩)
