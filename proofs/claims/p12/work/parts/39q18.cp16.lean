set_option maxRecDepth 4000 in
theorem y_X3_all {d : Nat} (a : Nat → Nat → Int32) (b : Nat → Nat → Int64) (v : Nat → Option Nat) (L : Nat) (hL : L = 22 ∨ L = 46) : f_pc mtC d 19 [.inr (.inr (some L))] (cH a b v) (fun v9 h' => h' = cH a b v ∧ ∃ x : Int32, v9 = some (.inl x) ∧ (∃ y : Int32, y = (1 : Int32) <<< ((a L 7) &&& 31) ∧ x = y - 1)) := by
  refine f_pc_of rfl (fun d0 fu hd => ?_)
  show f_pq _ _ (0, [some (.inr (.inr (some L)))], [], cH a b v) _
  have l1 : (1 : Int32).toInt = 1 := rfl
  refine qw_const rfl ?_
  refine qw_aload rfl rfl ?_
  refine qc_getI rfl (sh_land (by omega)) rfl rfl ?_
  refine qw_iiE rfl (fun x1 tx1 => ?_)
  have t5 := tx1
  refine qw_const rfl ?_
  refine qw_iiE rfl (fun x2 tx2 => ?_)
  have t7 := tx2
  exact qwp_iret (z := false) rfl (fun h9 => by cases h9) ⟨rfl, ⟨_, rfl, ⟨_, t5, t7⟩⟩⟩
set_option maxHeartbeats 1000000 in
set_option maxRecDepth 4000 in
theorem y_X12_ends {d : Nat} (a : Nat → Nat → Int32) (b : Nat → Nat → Int64) (v : Nat → Option Nat) (L : Nat) (V : Nat → Int)  (h0 : v 0 = some L) (hL : L = 22 ∨ L = 46) (hC : CLI L V a) (hG : GV V) (hFI : FIT L V a) : f_pc mtC d 117 [.inr (.inr (some 0))] (cH a b v) (fun v9 h' => h' = cH a b v ∧ ∃ x : Int32, v9 = some (.inl x) ∧ (ENDR V x)) := by
  refine f_pc_of rfl (fun d0 fu hd => ?_)
  show f_pq _ _ (0, [some (.inr (.inr (some 0))), none, none, none], [], cH a b v) _
  have lm1 : (-1 : Int32).toInt = -1 := rfl
  have l0 : (0 : Int32).toInt = 0 := rfl
  have l1 : (1 : Int32).toInt = 1 := rfl
  have r0 := hC.1
  have g0 := hG.1
  refine qw_const rfl ?_
  refine qw_istore (lo' := [some (.inr (.inr (some 0))), some (.inl 0), none, none]) rfl rfl ?_
  refine qw_const rfl ?_
  refine qw_istore (lo' := [some (.inr (.inr (some 0))), some (.inl 0), some (.inl 0), none]) rfl rfl ?_
  have loop4 : ∀ (fu4 : Nat) (k : Int32) (r : Int32) (o3_4 : Option f_V),  (0 ≤ r.toInt ∧ r.toInt ≤ V 0) → (k = nI (wdN (FF V) r.toInt.toNat)) → f_pq (f_code (t_X12_ends (f_ev mtC d0))) fu4 (4, [some (.inr (.inr (some 0))), some (.inl k), some (.inl r), o3_4], [], cH a b v) (fun v9 h' => h' = cH a b v ∧ ∃ x : Int32, v9 = some (.inl x) ∧ (ENDR V x)) := by
    intro fu4
    induction fu4 with
    | zero => intros; exact pq_0
    | succ fu4 ih4 =>
      intro k r o3_4 hr hk
      refine qw_iload rfl rfl ?_
      refine qw_aload rfl rfl ?_
      refine qc_getR (t := some L) rfl rfl rfl rfl h0 ?_
      refine qc_getI rfl (sh_land (by omega)) rfl rfl ?_
      refine qw_ic_ge rfl (fun c1 => ?_) (fun c1 => ?_)
      · skip
        refine qw_aload rfl rfl ?_
        refine qc_getR (t := some L) rfl rfl rfl rfl h0 ?_
        refine qw_invV (rest := []) rfl rfl (sh_land (by omega)) rfl rfl (Nat.le_of_ble_eq_true rfl) rfl (y_X3_all (d := d0) a b v  L (by omega)) (fun z2 h9 hq3 => ?_)
        obtain ⟨rfl, x4, rfl, px4⟩ := hq3
        show f_pq _ _ (50, [some (.inr (.inr (some 0))), some (.inl k), some (.inl r), o3_4], [.inl x4], cH a b v) _
        obtain ⟨y47, u47, w47⟩ := px4
        refine qw_iload rfl rfl ?_
        refine qw_const rfl ?_
        refine qw_iiE rfl (fun x5 tx5 => ?_)
        have t52 := tx5
        refine qw_iiE rfl (fun x6 tx6 => ?_)
        have t53 := tx6
        exact qwp_iret (z := false) rfl (fun h9 => by cases h9) ⟨rfl, ⟨_, rfl, ENDR.mk hG (r := a L 7) hC.1 (by rw [show (V 0).toNat = r.toInt.toNat from by omega]; exact hk) u47 w47 t52 t53⟩⟩
      · skip
        refine qw_aload rfl rfl ?_
        refine qc_getR (t := some L) rfl rfl rfl rfl h0 ?_
        refine qc_getR (t := some (L + 10)) rfl (sh_land (by omega)) rfl rfl (rC_land5 (by omega)) ?_
        refine qw_iload rfl rfl ?_
        refine qc_iald rfl (sh_fits (by omega)) (fun jx7 x7 ex7 => ?_)
        have x23 : x7 = nI (FF V r.toInt.toNat) := (ex7).trans (hFI _ (by omega))
        refine qw_istore (lo' := [some (.inr (.inr (some 0))), some (.inl k), some (.inl r), some (.inl x7)]) rfl rfl ?_
        refine qw_iload rfl rfl ?_
        refine qw_if_eq rfl (fun c8 => ?_) (fun c8 => ?_)
        · skip
          have c26 := c8
          refine qw_iinc (lo' := fun z9 => [some (.inr (.inr (some 0))), some (.inl k), some (.inl z9), some (.inl x7)]) rfl rfl (fun _ => rfl) (by omega) (fun x9 tx9 => ?_)
          exact qw_gotoD rfl (ih4 k x9 (some (.inl x7))  (by omega) (wd_n hk (FF_64 hG _) x23 c26 (by omega)))
        · skip
          have c26 := c8
          refine qw_iload rfl rfl ?_
          refine qw_iload rfl rfl ?_
          refine qw_const rfl ?_
          refine qw_iload rfl rfl ?_
          refine qw_iiE rfl (fun x10 tx10 => ?_)
          have t33 := tx10
          refine qw_iiE rfl (fun x11 tx11 => ?_)
          have t34 := tx11
          refine qw_iiE rfl (fun x12 tx12 => ?_)
          have t35 := tx12
          refine qw_istore (lo' := [some (.inr (.inr (some 0))), some (.inl x12), some (.inl r), some (.inl x7)]) rfl rfl ?_
          refine qw_iinc (lo' := fun z9 => [some (.inr (.inr (some 0))), some (.inl x12), some (.inl z9), some (.inl x7)]) rfl rfl (fun _ => rfl) (by omega) (fun x13 tx13 => ?_)
          exact qw_gotoD rfl (ih4 x12 x13 (some (.inl x7))  (by omega) (wd_y hk (FF_64 hG) (by omega) x23 c26 (by omega) t33 t34 t35 (by omega)))
  exact loop4 _ 0 0 none  (by omega) (rfl)
