set_option maxHeartbeats 4000000 in
set_option maxRecDepth 100000 in
theorem lc_hyphen {p : Program} {e : Env} {s : State} {m : MethodId} {below : List Frame} {meth : Method} {c : Code} (l : Launch) {b : Nat} {xs : Nat → Int32} (C0 : lw_At p s m meth c b 7 xs) (hts : ∀ w ∈ p_tbl, w.before #[Value.ref b] s = true) {D : va_G} {k : Nat → ClassId} (hK : va_K D vwCl (pT k) s) (hN : pN s) {A : Nat → Prop} (hA : ∀ q : Nat, s.heap.size ≤ q → A q) (hAf : ∀ q : Nat, A q → s.heap.size ≤ q) (qa ma : Nat → Nat) (gs mg : Nat → Nat → Int32) (out : Nat) (hf : p_mf mg) {H : Heap} {locs : List Loc} {ls : Array Slot} (hP : va_P D vwCl (p_big k qa ma gs mg) H) (hD : va_D A (p_big k qa ma gs mg)) (hS : va_S A s.heap H locs) (hl : lv_has ls 7 [(4, .int 0), (3, .ref out), (2, .ref (ma 0)), (1, .ref (qa 0)), (0, .ref b)]) : W p l e room_1 s m #[Value.ref b] below meth c H locs 265 37830 (lw_Z below #[Value.ref b] s) (F0 m 823 ls []) := by
  obtain ⟨hx, hb, hr, hml, hown, -, hX, hbl, hlocks, hgv⟩ := C0
  obtain ⟨hl0, hl1, hl2, hs0, hs19, hs26, hn0, hm0, hm1, hm2, hm3⟩ := hf
  have hbA : ¬ A b := fun h => absurd (hAf b h) (Nat.not_le.mpr hbl)
  have hP := hP.sub (ws' := [((qa 0), .inr (9, [.ref (qa 1), .ref (qa 6), .ref (qa 9), .ref (qa 17), .ref (qa 18), .ref (qa 19), .ref (qa 20), .ref (qa 23), .ref (qa 25), .ref (qa 28), .ref (qa 29), .ref (qa 30), .ref (qa 31), .int 0, .int 0, .int 0])), ((qa 30), .inr (2, [.ref (qa 133), .ref (qa 134), .ref (qa 135), .ref (qa 136), .ref (qa 137), .ref (qa 138), .ref (qa 139), .int 0, .int 0, .int 0, .int 0, .int 0])), ((ma 0), .inr (10, [.int 0, .ref (ma 1), .int 0, .int 0, .ref (ma 4), .ref (ma 5), .ref (ma 6), .int 0, .int 0, .ref (ma 9), .ref (ma 10), .ref (ma 11), .ref (ma 12), .int 0, .ref (ma 14), .ref (ma 15), .int 0, .int 0, .ref (ma 18), .ref (ma 19), .ref (ma 20), .ref (ma 21), .ref (ma 22), .int 0, .ref (ma 24), .int 0, .ref (ma 26), .int 0, .int 0, .int 0, .int 0, .ref (ma 31), .ref (ma 32), .ref (ma 33), .ref (ma 34), .ref (ma 35), .int 0, .int 0, .ref (ma 38), .ref (ma 39), .ref (ma 40), .long 0])), ((ma 10), .inl (k 1, 220, .inl (mg 10)))]) [0, 30, 133, 137] rfl
  have hD := hD.sub (ws' := [((qa 0), .inr (9, [.ref (qa 1), .ref (qa 6), .ref (qa 9), .ref (qa 17), .ref (qa 18), .ref (qa 19), .ref (qa 20), .ref (qa 23), .ref (qa 25), .ref (qa 28), .ref (qa 29), .ref (qa 30), .ref (qa 31), .int 0, .int 0, .int 0])), ((qa 30), .inr (2, [.ref (qa 133), .ref (qa 134), .ref (qa 135), .ref (qa 136), .ref (qa 137), .ref (qa 138), .ref (qa 139), .int 0, .int 0, .int 0, .int 0, .int 0])), ((ma 0), .inr (10, [.int 0, .ref (ma 1), .int 0, .int 0, .ref (ma 4), .ref (ma 5), .ref (ma 6), .int 0, .int 0, .ref (ma 9), .ref (ma 10), .ref (ma 11), .ref (ma 12), .int 0, .ref (ma 14), .ref (ma 15), .int 0, .int 0, .ref (ma 18), .ref (ma 19), .ref (ma 20), .ref (ma 21), .ref (ma 22), .int 0, .ref (ma 24), .int 0, .ref (ma 26), .int 0, .int 0, .int 0, .int 0, .ref (ma 31), .ref (ma 32), .ref (ma 33), .ref (ma 34), .ref (ma 35), .int 0, .int 0, .ref (ma 38), .ref (ma 39), .ref (ma 40), .long 0])), ((ma 10), .inl (k 1, 220, .inl (mg 10)))]) [0, 30, 133, 137] (by decide) rfl
  refine lv_aload_n hx hb dL_law_823 rfl (lv_at hl 3 rfl) ?_
  refine lv_aload_n hx hb dL_law_824 rfl (lv_at hl 4 rfl) ?_
  refine lv_iload hx hb dL_law_825 (lv_at hl 0 rfl) ?_
  refine lv_iconst (v := 1) hx hb dL_law_827 (by decide) ?_
  refine lv_iadd hx hb dL_law_828 ?_
  refine p_topI (v := 1) (by decide) ?_
  refine va_sld hx hb hX hbl hbA hS (show ¬ (_ ∨ _) by decide) dL_law_829 ?_
  refine p_topI (v := (xs 1)) rfl ?_
  refine p_ji (wr := [((ma 0), .inr (10, [.int 0, .ref (ma 1), .int 0, .int 0, .ref (ma 4), .ref (ma 5), .ref (ma 6), .int 0, .int 0, .ref (ma 9), .ref (ma 10), .ref (ma 11), .ref (ma 12), .int 0, .ref (ma 14), .ref (ma 15), .int 0, .int 0, .ref (ma 18), .ref (ma 19), .ref (ma 20), .ref (ma 21), .ref (ma 22), .int 0, .ref (ma 24), .int 0, .ref (ma 26), .int 0, .int 0, .int 0, .int 0, .ref (ma 31), .ref (ma 32), .ref (ma 33), .ref (ma 34), .ref (ma 35), .int 0, .int 0, .ref (ma 38), .ref (ma 39), .ref (ma 40), .long 0])), ((ma 10), .inl (k 1, 220, .inl (mg 10)))]) (va_runV (As := [.int (xs 1)]) (rest := []) ⟨hx, hb, hml, hown, hts⟩ (c_hyphen l D k _ qa (xs 1)) (cwV 1 hts lg_53 rfl rfl rfl (by decide +kernel) ⟨Nat.le_of_ble_eq_true rfl, Nat.le_of_ble_eq_true rfl⟩) (pV hK hN hP hD [0, 1] rfl (by decide) rfl 0 rfl rfl) rfl rfl hl.1 rfl (lv_room (Nat.le_of_ble_eq_true rfl)) dL_law_830 ⟨by decide, by decide⟩) hP hD hS hA [0, 1] [2, 3] rfl rfl (by decide) (by decide) (fun rx3 ux1 H locs wx2 hP hD hS => ?_)
  have hx4 : rx3 = (-1) := wx2
  subst hx4
  have hP : va_P D vwCl [((ma 0), .inr (10, [.int 0, .ref (ma 1), .int 0, .int 0, .ref (ma 4), .ref (ma 5), .ref (ma 6), .int 0, .int 0, .ref (ma 9), .ref (ma 10), .ref (ma 11), .ref (ma 12), .int 0, .ref (ma 14), .ref (ma 15), .int 0, .int 0, .ref (ma 18), .ref (ma 19), .ref (ma 20), .ref (ma 21), .ref (ma 22), .int 0, .ref (ma 24), .int 0, .ref (ma 26), .int 0, .int 0, .int 0, .int 0, .ref (ma 31), .ref (ma 32), .ref (ma 33), .ref (ma 34), .ref (ma 35), .int 0, .int 0, .ref (ma 38), .ref (ma 39), .ref (ma 40), .long 0])), ((ma 10), .inl (k 1, 220, .inl (mg 10)))] H := hP
  have hD : va_D A [((ma 0), .inr (10, [.int 0, .ref (ma 1), .int 0, .int 0, .ref (ma 4), .ref (ma 5), .ref (ma 6), .int 0, .int 0, .ref (ma 9), .ref (ma 10), .ref (ma 11), .ref (ma 12), .int 0, .ref (ma 14), .ref (ma 15), .int 0, .int 0, .ref (ma 18), .ref (ma 19), .ref (ma 20), .ref (ma 21), .ref (ma 22), .int 0, .ref (ma 24), .int 0, .ref (ma 26), .int 0, .int 0, .int 0, .int 0, .ref (ma 31), .ref (ma 32), .ref (ma 33), .ref (ma 34), .ref (ma 35), .int 0, .int 0, .ref (ma 38), .ref (ma 39), .ref (ma 40), .long 0])), ((ma 10), .inl (k 1, 220, .inl (mg 10)))] := hD
  refine lv_aload_n hx hb dL_law_833 rfl (lv_at hl 2 rfl) ?_
  refine lv_aload_n hx hb dL_law_834 rfl (lv_at hl 4 rfl) ?_
  refine lv_iload hx hb dL_law_835 (lv_at hl 0 rfl) ?_
  refine lv_iconst (v := 1) hx hb dL_law_837 (by decide) ?_
  refine lv_iadd hx hb dL_law_838 ?_
  refine p_topI (v := 1) (by decide) ?_
  refine va_sld hx hb hX hbl hbA hS (show ¬ (_ ∨ _) by decide) dL_law_839 ?_
  refine p_topI (v := (xs 1)) rfl ?_
  refine p_ji (wr := []) (va_runV (As := [.int (xs 1)]) (rest := [.int (-1)]) ⟨hx, hb, hml, hown, hts⟩ (c_m_hyphen l D k _ ma mg (xs 1) hl0) (cwV 1 hts lg_54 rfl rfl rfl (by decide +kernel) ⟨Nat.le_of_ble_eq_true rfl, Nat.le_of_ble_eq_true rfl⟩) (pV hK hN hP hD [0, 1] rfl (by decide) rfl 0 rfl rfl) rfl rfl hl.1 rfl (lv_room (Nat.le_of_ble_eq_true rfl)) dL_law_840 ⟨by decide, by decide⟩) hP hD hS hA [0, 1] [] rfl rfl (by decide) (by decide) (fun rx7 ux5 H locs wx6 hP hD hS => ?_)
  have hx8 : rx7 = (-1) := wx6
  subst hx8
  have hP : va_P D vwCl [] H := hP
  have hD : va_D A [] := hD
  refine lv_icmp_eq (tgt := 1487) hx hb dL_law_843 (by decide) (fun cx9 => ?_) (fun h9 => absurd (by decide) h9)
  refine lv_iinc (v := 7) (lv' := [(4, .int 7), (3, .ref out), (2, .ref (ma 0)), (1, .ref (qa 0)), (0, .ref b)]) hx hb dL_law_1487 hl (k := 0) rfl (by decide) (by decide) rfl (fun ls hl => ?_)
  refine lv_goto (tgt := 23) hx hb dL_law_1490 (by decide) ?_
  refine lv_iload hx hb dL_law_23 (lv_at hl 0 rfl) ?_
  refine lv_aload_n hx hb dL_law_25 rfl (lv_at hl 4 rfl) ?_
  refine va_slen hx hb hX hbl hbA hS dL_law_26 ?_
  refine p_topI (v := 7) (by decide) ?_
  refine lv_bipush (v := 7) hx hb dL_law_27 (by decide) ?_
  refine lv_isub hx hb dL_law_29 ?_
  refine p_topI (v := 0) (by decide) ?_
  refine lv_icmp_gt (tgt := 1493) hx hb dL_law_30 (by decide) (fun cx10 => ?_) (fun h9 => absurd (by decide) h9)
  refine lv_iconst (v := 1) hx hb dL_law_1493 (by decide) ?_
  refine va_forget (fun q hq => hAf _ (hS.2.2 q hq)) ?_
  refine W.widen (k := 600002) (n := 7302232) (by decide) (by decide) ?_
  exact lw_ret hx hb hr hlocks dL_law_1494
set_option maxHeartbeats 4000000 in
set_option maxRecDepth 100000 in
theorem lc_match {p : Program} {e : Env} {s : State} {m : MethodId} {below : List Frame} {meth : Method} {c : Code} (l : Launch) {b : Nat} {xs : Nat → Int32} (C0 : lw_At p s m meth c b 7 xs) (hts : ∀ w ∈ p_tbl, w.before #[Value.ref b] s = true) {D : va_G} {k : Nat → ClassId} (hK : va_K D vwCl (pT k) s) (hN : pN s) {A : Nat → Prop} (hA : ∀ q : Nat, s.heap.size ≤ q → A q) (hAf : ∀ q : Nat, A q → s.heap.size ≤ q) (qa ma : Nat → Nat) (gs mg : Nat → Nat → Int32) (out : Nat) (hf : p_mf mg) {H : Heap} {locs : List Loc} {ls : Array Slot} (hP : va_P D vwCl (p_big k qa ma gs mg) H) (hD : va_D A (p_big k qa ma gs mg)) (hS : va_S A s.heap H locs) (hl : lv_has ls 7 [(4, .int 0), (3, .ref out), (2, .ref (ma 0)), (1, .ref (qa 0)), (0, .ref b)]) : W p l e room_1 s m #[Value.ref b] below meth c H locs 265 37830 (lw_Z below #[Value.ref b] s) (F0 m 848 ls []) := by
  obtain ⟨hx, hb, hr, hml, hown, -, hX, hbl, hlocks, hgv⟩ := C0
  obtain ⟨hl0, hl1, hl2, hs0, hs19, hs26, hn0, hm0, hm1, hm2, hm3⟩ := hf
  have hbA : ¬ A b := fun h => absurd (hAf b h) (Nat.not_le.mpr hbl)
  have hP := hP.sub (ws' := [((qa 0), .inr (9, [.ref (qa 1), .ref (qa 6), .ref (qa 9), .ref (qa 17), .ref (qa 18), .ref (qa 19), .ref (qa 20), .ref (qa 23), .ref (qa 25), .ref (qa 28), .ref (qa 29), .ref (qa 30), .ref (qa 31), .int 0, .int 0, .int 0])), ((qa 20), .inr (4, [.ref (qa 21), .ref (qa 22), .ref (qa 30)])), ((qa 21), .inl (k 1, 6, .inl (fun _ => 0))), ((qa 22), .inl (k 1, 6, .inl (fun _ => 0))), ((qa 23), .inr (3, [.ref (qa 20), .ref (qa 24), .int 0, .int 0, .int 0, .int 0])), ((qa 24), .inl (k 1, 6, .inl (fun _ => 0))), ((qa 30), .inr (2, [.ref (qa 133), .ref (qa 134), .ref (qa 135), .ref (qa 136), .ref (qa 137), .ref (qa 138), .ref (qa 139), .int 0, .int 0, .int 0, .int 0, .int 0])), ((ma 0), .inr (10, [.int 0, .ref (ma 1), .int 0, .int 0, .ref (ma 4), .ref (ma 5), .ref (ma 6), .int 0, .int 0, .ref (ma 9), .ref (ma 10), .ref (ma 11), .ref (ma 12), .int 0, .ref (ma 14), .ref (ma 15), .int 0, .int 0, .ref (ma 18), .ref (ma 19), .ref (ma 20), .ref (ma 21), .ref (ma 22), .int 0, .ref (ma 24), .int 0, .ref (ma 26), .int 0, .int 0, .int 0, .int 0, .ref (ma 31), .ref (ma 32), .ref (ma 33), .ref (ma 34), .ref (ma 35), .int 0, .int 0, .ref (ma 38), .ref (ma 39), .ref (ma 40), .long 0])), ((ma 10), .inl (k 1, 220, .inl (mg 10))), ((ma 22), .inl (k 1, 1320, .inl (mg 22)))]) [0, 20, 21, 22, 23, 24, 30, 133, 137, 141] rfl
  have hD := hD.sub (ws' := [((qa 0), .inr (9, [.ref (qa 1), .ref (qa 6), .ref (qa 9), .ref (qa 17), .ref (qa 18), .ref (qa 19), .ref (qa 20), .ref (qa 23), .ref (qa 25), .ref (qa 28), .ref (qa 29), .ref (qa 30), .ref (qa 31), .int 0, .int 0, .int 0])), ((qa 20), .inr (4, [.ref (qa 21), .ref (qa 22), .ref (qa 30)])), ((qa 21), .inl (k 1, 6, .inl (fun _ => 0))), ((qa 22), .inl (k 1, 6, .inl (fun _ => 0))), ((qa 23), .inr (3, [.ref (qa 20), .ref (qa 24), .int 0, .int 0, .int 0, .int 0])), ((qa 24), .inl (k 1, 6, .inl (fun _ => 0))), ((qa 30), .inr (2, [.ref (qa 133), .ref (qa 134), .ref (qa 135), .ref (qa 136), .ref (qa 137), .ref (qa 138), .ref (qa 139), .int 0, .int 0, .int 0, .int 0, .int 0])), ((ma 0), .inr (10, [.int 0, .ref (ma 1), .int 0, .int 0, .ref (ma 4), .ref (ma 5), .ref (ma 6), .int 0, .int 0, .ref (ma 9), .ref (ma 10), .ref (ma 11), .ref (ma 12), .int 0, .ref (ma 14), .ref (ma 15), .int 0, .int 0, .ref (ma 18), .ref (ma 19), .ref (ma 20), .ref (ma 21), .ref (ma 22), .int 0, .ref (ma 24), .int 0, .ref (ma 26), .int 0, .int 0, .int 0, .int 0, .ref (ma 31), .ref (ma 32), .ref (ma 33), .ref (ma 34), .ref (ma 35), .int 0, .int 0, .ref (ma 38), .ref (ma 39), .ref (ma 40), .long 0])), ((ma 10), .inl (k 1, 220, .inl (mg 10))), ((ma 22), .inl (k 1, 1320, .inl (mg 22)))]) [0, 20, 21, 22, 23, 24, 30, 133, 137, 141] (by decide) rfl
  by_cases cA : (xs 1) < 0
  · skip
    refine lv_aload_n hx hb dL_law_848 rfl (lv_at hl 3 rfl) ?_
    refine lv_aload_n hx hb dL_law_849 rfl (lv_at hl 4 rfl) ?_
    refine lv_iload hx hb dL_law_850 (lv_at hl 0 rfl) ?_
    refine lv_iconst (v := 1) hx hb dL_law_852 (by decide) ?_
    refine lv_iadd hx hb dL_law_853 ?_
    refine p_topI (v := 1) (by decide) ?_
    refine va_sld hx hb hX hbl hbA hS (show ¬ (_ ∨ _) by decide) dL_law_854 ?_
    refine p_topI (v := (xs 1)) rfl ?_
    refine p_ji (wr := [((ma 0), .inr (10, [.int 0, .ref (ma 1), .int 0, .int 0, .ref (ma 4), .ref (ma 5), .ref (ma 6), .int 0, .int 0, .ref (ma 9), .ref (ma 10), .ref (ma 11), .ref (ma 12), .int 0, .ref (ma 14), .ref (ma 15), .int 0, .int 0, .ref (ma 18), .ref (ma 19), .ref (ma 20), .ref (ma 21), .ref (ma 22), .int 0, .ref (ma 24), .int 0, .ref (ma 26), .int 0, .int 0, .int 0, .int 0, .ref (ma 31), .ref (ma 32), .ref (ma 33), .ref (ma 34), .ref (ma 35), .int 0, .int 0, .ref (ma 38), .ref (ma 39), .ref (ma 40), .long 0])), ((ma 10), .inl (k 1, 220, .inl (mg 10))), ((ma 22), .inl (k 1, 1320, .inl (mg 22)))]) (va_runV (As := [.int (xs 1)]) (rest := []) ⟨hx, hb, hml, hown, hts⟩ (c_match_lo l D k _ qa (xs 1) cA) (cwV 1 hts lg_55 rfl rfl rfl (by decide +kernel) ⟨Nat.le_of_ble_eq_true rfl, Nat.le_of_ble_eq_true rfl⟩) (pV hK hN hP hD [0, 6, 1, 2, 3, 4, 5] rfl (by decide) rfl 0 rfl rfl) rfl rfl hl.1 rfl (lv_room (Nat.le_of_ble_eq_true rfl)) dL_law_855 ⟨by decide, by decide⟩) hP hD hS hA [0, 6, 1, 2, 3, 4, 5] [7, 8, 9] rfl rfl (by decide) (by decide) (fun rx3 ux1 H locs wx2 hP hD hS => ?_)
    have hx4 : rx3 = (-2) := wx2
    subst hx4
    have hP : va_P D vwCl [((ma 0), .inr (10, [.int 0, .ref (ma 1), .int 0, .int 0, .ref (ma 4), .ref (ma 5), .ref (ma 6), .int 0, .int 0, .ref (ma 9), .ref (ma 10), .ref (ma 11), .ref (ma 12), .int 0, .ref (ma 14), .ref (ma 15), .int 0, .int 0, .ref (ma 18), .ref (ma 19), .ref (ma 20), .ref (ma 21), .ref (ma 22), .int 0, .ref (ma 24), .int 0, .ref (ma 26), .int 0, .int 0, .int 0, .int 0, .ref (ma 31), .ref (ma 32), .ref (ma 33), .ref (ma 34), .ref (ma 35), .int 0, .int 0, .ref (ma 38), .ref (ma 39), .ref (ma 40), .long 0])), ((ma 10), .inl (k 1, 220, .inl (mg 10))), ((ma 22), .inl (k 1, 1320, .inl (mg 22)))] H := hP
    have hD : va_D A [((ma 0), .inr (10, [.int 0, .ref (ma 1), .int 0, .int 0, .ref (ma 4), .ref (ma 5), .ref (ma 6), .int 0, .int 0, .ref (ma 9), .ref (ma 10), .ref (ma 11), .ref (ma 12), .int 0, .ref (ma 14), .ref (ma 15), .int 0, .int 0, .ref (ma 18), .ref (ma 19), .ref (ma 20), .ref (ma 21), .ref (ma 22), .int 0, .ref (ma 24), .int 0, .ref (ma 26), .int 0, .int 0, .int 0, .int 0, .ref (ma 31), .ref (ma 32), .ref (ma 33), .ref (ma 34), .ref (ma 35), .int 0, .int 0, .ref (ma 38), .ref (ma 39), .ref (ma 40), .long 0])), ((ma 10), .inl (k 1, 220, .inl (mg 10))), ((ma 22), .inl (k 1, 1320, .inl (mg 22)))] := hD
    refine lv_aload_n hx hb dL_law_858 rfl (lv_at hl 2 rfl) ?_
    refine lv_aload_n hx hb dL_law_859 rfl (lv_at hl 4 rfl) ?_
    refine lv_iload hx hb dL_law_860 (lv_at hl 0 rfl) ?_
    refine lv_iconst (v := 1) hx hb dL_law_862 (by decide) ?_
    refine lv_iadd hx hb dL_law_863 ?_
    refine p_topI (v := 1) (by decide) ?_
    refine va_sld hx hb hX hbl hbA hS (show ¬ (_ ∨ _) by decide) dL_law_864 ?_
    refine p_topI (v := (xs 1)) rfl ?_
    refine p_ji (wr := [((ma 22), .inl (k 1, 1320, .inl (mg 22)))]) (va_runV (As := [.int (xs 1)]) (rest := [.int (-2)]) ⟨hx, hb, hml, hown, hts⟩ (c_m_match_lo l D k _ ma mg (xs 1) hl0 cA) (cwV 1 hts lg_56 rfl rfl rfl (by decide +kernel) ⟨Nat.le_of_ble_eq_true rfl, Nat.le_of_ble_eq_true rfl⟩) (pV hK hN hP hD [0, 1] rfl (by decide) rfl 0 rfl rfl) rfl rfl hl.1 rfl (lv_room (Nat.le_of_ble_eq_true rfl)) dL_law_865 ⟨by decide, by decide⟩) hP hD hS hA [0, 1] [2] rfl rfl (by decide) (by decide) (fun rx7 ux5 H locs wx6 hP hD hS => ?_)
    have hx8 : rx7 = (-2) := wx6
    subst hx8
    have hP : va_P D vwCl [((ma 22), .inl (k 1, 1320, .inl (mg 22)))] H := hP
    have hD : va_D A [((ma 22), .inl (k 1, 1320, .inl (mg 22)))] := hD
    refine lv_icmp_eq (tgt := 1487) hx hb dL_law_868 (by decide) (fun cx9 => ?_) (fun h9 => absurd (by decide) h9)
    refine lv_iinc (v := 7) (lv' := [(4, .int 7), (3, .ref out), (2, .ref (ma 0)), (1, .ref (qa 0)), (0, .ref b)]) hx hb dL_law_1487 hl (k := 0) rfl (by decide) (by decide) rfl (fun ls hl => ?_)
    refine lv_goto (tgt := 23) hx hb dL_law_1490 (by decide) ?_
    refine lv_iload hx hb dL_law_23 (lv_at hl 0 rfl) ?_
    refine lv_aload_n hx hb dL_law_25 rfl (lv_at hl 4 rfl) ?_
    refine va_slen hx hb hX hbl hbA hS dL_law_26 ?_
    refine p_topI (v := 7) (by decide) ?_
    refine lv_bipush (v := 7) hx hb dL_law_27 (by decide) ?_
    refine lv_isub hx hb dL_law_29 ?_
    refine p_topI (v := 0) (by decide) ?_
    refine lv_icmp_gt (tgt := 1493) hx hb dL_law_30 (by decide) (fun cx10 => ?_) (fun h9 => absurd (by decide) h9)
    refine lv_iconst (v := 1) hx hb dL_law_1493 (by decide) ?_
    refine va_forget (fun q hq => hAf _ (hS.2.2 q hq)) ?_
    refine W.widen (k := 600002) (n := 7302232) (by decide) (by decide) ?_
    exact lw_ret hx hb hr hlocks dL_law_1494
  by_cases cB : 2 < (xs 1)
  · skip
    refine lv_aload_n hx hb dL_law_848 rfl (lv_at hl 3 rfl) ?_
    refine lv_aload_n hx hb dL_law_849 rfl (lv_at hl 4 rfl) ?_
    refine lv_iload hx hb dL_law_850 (lv_at hl 0 rfl) ?_
    refine lv_iconst (v := 1) hx hb dL_law_852 (by decide) ?_
    refine lv_iadd hx hb dL_law_853 ?_
    refine p_topI (v := 1) (by decide) ?_
    refine va_sld hx hb hX hbl hbA hS (show ¬ (_ ∨ _) by decide) dL_law_854 ?_
    refine p_topI (v := (xs 1)) rfl ?_
    refine p_ji (wr := [((ma 0), .inr (10, [.int 0, .ref (ma 1), .int 0, .int 0, .ref (ma 4), .ref (ma 5), .ref (ma 6), .int 0, .int 0, .ref (ma 9), .ref (ma 10), .ref (ma 11), .ref (ma 12), .int 0, .ref (ma 14), .ref (ma 15), .int 0, .int 0, .ref (ma 18), .ref (ma 19), .ref (ma 20), .ref (ma 21), .ref (ma 22), .int 0, .ref (ma 24), .int 0, .ref (ma 26), .int 0, .int 0, .int 0, .int 0, .ref (ma 31), .ref (ma 32), .ref (ma 33), .ref (ma 34), .ref (ma 35), .int 0, .int 0, .ref (ma 38), .ref (ma 39), .ref (ma 40), .long 0])), ((ma 10), .inl (k 1, 220, .inl (mg 10))), ((ma 22), .inl (k 1, 1320, .inl (mg 22)))]) (va_runV (As := [.int (xs 1)]) (rest := []) ⟨hx, hb, hml, hown, hts⟩ (c_match_hi l D k _ qa (xs 1) cB) (cwV 1 hts lg_57 rfl rfl rfl (by decide +kernel) ⟨Nat.le_of_ble_eq_true rfl, Nat.le_of_ble_eq_true rfl⟩) (pV hK hN hP hD [0, 6, 1, 2, 3, 4, 5] rfl (by decide) rfl 0 rfl rfl) rfl rfl hl.1 rfl (lv_room (Nat.le_of_ble_eq_true rfl)) dL_law_855 ⟨by decide, by decide⟩) hP hD hS hA [0, 6, 1, 2, 3, 4, 5] [7, 8, 9] rfl rfl (by decide) (by decide) (fun rx13 ux11 H locs wx12 hP hD hS => ?_)
    have hx14 : rx13 = (-2) := wx12
    subst hx14
    have hP : va_P D vwCl [((ma 0), .inr (10, [.int 0, .ref (ma 1), .int 0, .int 0, .ref (ma 4), .ref (ma 5), .ref (ma 6), .int 0, .int 0, .ref (ma 9), .ref (ma 10), .ref (ma 11), .ref (ma 12), .int 0, .ref (ma 14), .ref (ma 15), .int 0, .int 0, .ref (ma 18), .ref (ma 19), .ref (ma 20), .ref (ma 21), .ref (ma 22), .int 0, .ref (ma 24), .int 0, .ref (ma 26), .int 0, .int 0, .int 0, .int 0, .ref (ma 31), .ref (ma 32), .ref (ma 33), .ref (ma 34), .ref (ma 35), .int 0, .int 0, .ref (ma 38), .ref (ma 39), .ref (ma 40), .long 0])), ((ma 10), .inl (k 1, 220, .inl (mg 10))), ((ma 22), .inl (k 1, 1320, .inl (mg 22)))] H := hP
    have hD : va_D A [((ma 0), .inr (10, [.int 0, .ref (ma 1), .int 0, .int 0, .ref (ma 4), .ref (ma 5), .ref (ma 6), .int 0, .int 0, .ref (ma 9), .ref (ma 10), .ref (ma 11), .ref (ma 12), .int 0, .ref (ma 14), .ref (ma 15), .int 0, .int 0, .ref (ma 18), .ref (ma 19), .ref (ma 20), .ref (ma 21), .ref (ma 22), .int 0, .ref (ma 24), .int 0, .ref (ma 26), .int 0, .int 0, .int 0, .int 0, .ref (ma 31), .ref (ma 32), .ref (ma 33), .ref (ma 34), .ref (ma 35), .int 0, .int 0, .ref (ma 38), .ref (ma 39), .ref (ma 40), .long 0])), ((ma 10), .inl (k 1, 220, .inl (mg 10))), ((ma 22), .inl (k 1, 1320, .inl (mg 22)))] := hD
    refine lv_aload_n hx hb dL_law_858 rfl (lv_at hl 2 rfl) ?_
    refine lv_aload_n hx hb dL_law_859 rfl (lv_at hl 4 rfl) ?_
    refine lv_iload hx hb dL_law_860 (lv_at hl 0 rfl) ?_
    refine lv_iconst (v := 1) hx hb dL_law_862 (by decide) ?_
    refine lv_iadd hx hb dL_law_863 ?_
    refine p_topI (v := 1) (by decide) ?_
    refine va_sld hx hb hX hbl hbA hS (show ¬ (_ ∨ _) by decide) dL_law_864 ?_
    refine p_topI (v := (xs 1)) rfl ?_
    refine p_ji (wr := [((ma 22), .inl (k 1, 1320, .inl (mg 22)))]) (va_runV (As := [.int (xs 1)]) (rest := [.int (-2)]) ⟨hx, hb, hml, hown, hts⟩ (c_m_match_hi l D k _ ma mg (xs 1) hl0 cB) (cwV 1 hts lg_58 rfl rfl rfl (by decide +kernel) ⟨Nat.le_of_ble_eq_true rfl, Nat.le_of_ble_eq_true rfl⟩) (pV hK hN hP hD [0, 1] rfl (by decide) rfl 0 rfl rfl) rfl rfl hl.1 rfl (lv_room (Nat.le_of_ble_eq_true rfl)) dL_law_865 ⟨by decide, by decide⟩) hP hD hS hA [0, 1] [2] rfl rfl (by decide) (by decide) (fun rx17 ux15 H locs wx16 hP hD hS => ?_)
    have hx18 : rx17 = (-2) := wx16
    subst hx18
    have hP : va_P D vwCl [((ma 22), .inl (k 1, 1320, .inl (mg 22)))] H := hP
    have hD : va_D A [((ma 22), .inl (k 1, 1320, .inl (mg 22)))] := hD
    refine lv_icmp_eq (tgt := 1487) hx hb dL_law_868 (by decide) (fun cx19 => ?_) (fun h9 => absurd (by decide) h9)
    refine lv_iinc (v := 7) (lv' := [(4, .int 7), (3, .ref out), (2, .ref (ma 0)), (1, .ref (qa 0)), (0, .ref b)]) hx hb dL_law_1487 hl (k := 0) rfl (by decide) (by decide) rfl (fun ls hl => ?_)
    refine lv_goto (tgt := 23) hx hb dL_law_1490 (by decide) ?_
    refine lv_iload hx hb dL_law_23 (lv_at hl 0 rfl) ?_
    refine lv_aload_n hx hb dL_law_25 rfl (lv_at hl 4 rfl) ?_
    refine va_slen hx hb hX hbl hbA hS dL_law_26 ?_
    refine p_topI (v := 7) (by decide) ?_
    refine lv_bipush (v := 7) hx hb dL_law_27 (by decide) ?_
    refine lv_isub hx hb dL_law_29 ?_
    refine p_topI (v := 0) (by decide) ?_
    refine lv_icmp_gt (tgt := 1493) hx hb dL_law_30 (by decide) (fun cx20 => ?_) (fun h9 => absurd (by decide) h9)
    refine lv_iconst (v := 1) hx hb dL_law_1493 (by decide) ?_
    refine va_forget (fun q hq => hAf _ (hS.2.2 q hq)) ?_
    refine W.widen (k := 600002) (n := 7302232) (by decide) (by decide) ?_
    exact lw_ret hx hb hr hlocks dL_law_1494
  rcases (show (xs 1) = 0 ∨ (xs 1) = 1 ∨ (xs 1) = 2 by revert cA cB; simp only [Int32.lt_iff_toInt_lt, ← Int32.toInt_inj, (by decide : (0 : Int32).toInt = 0), (by decide : (1 : Int32).toInt = 1), (by decide : (2 : Int32).toInt = 2)]; omega) with cC | cC | cC
  · skip
    refine lv_aload_n hx hb dL_law_848 rfl (lv_at hl 3 rfl) ?_
    refine lv_aload_n hx hb dL_law_849 rfl (lv_at hl 4 rfl) ?_
    refine lv_iload hx hb dL_law_850 (lv_at hl 0 rfl) ?_
    refine lv_iconst (v := 1) hx hb dL_law_852 (by decide) ?_
    refine lv_iadd hx hb dL_law_853 ?_
    refine p_topI (v := 1) (by decide) ?_
    refine va_sld hx hb hX hbl hbA hS (show ¬ (_ ∨ _) by decide) dL_law_854 ?_
    refine p_topI (v := 0) cC ?_
    refine p_ji (wr := [((ma 0), .inr (10, [.int 0, .ref (ma 1), .int 0, .int 0, .ref (ma 4), .ref (ma 5), .ref (ma 6), .int 0, .int 0, .ref (ma 9), .ref (ma 10), .ref (ma 11), .ref (ma 12), .int 0, .ref (ma 14), .ref (ma 15), .int 0, .int 0, .ref (ma 18), .ref (ma 19), .ref (ma 20), .ref (ma 21), .ref (ma 22), .int 0, .ref (ma 24), .int 0, .ref (ma 26), .int 0, .int 0, .int 0, .int 0, .ref (ma 31), .ref (ma 32), .ref (ma 33), .ref (ma 34), .ref (ma 35), .int 0, .int 0, .ref (ma 38), .ref (ma 39), .ref (ma 40), .long 0])), ((ma 10), .inl (k 1, 220, .inl (mg 10))), ((ma 22), .inl (k 1, 1320, .inl (mg 22)))]) (va_runV (As := [.int 0]) (rest := []) ⟨hx, hb, hml, hown, hts⟩ (c_match_0 l D k _ qa) (cwV 1 hts lg_59 rfl rfl rfl (by decide +kernel) ⟨Nat.le_of_ble_eq_true rfl, Nat.le_of_ble_eq_true rfl⟩) (pV hK hN hP hD [0, 6, 1, 2, 3, 4, 5] rfl (by decide) rfl 0 rfl rfl) rfl rfl hl.1 rfl (lv_room (Nat.le_of_ble_eq_true rfl)) dL_law_855 ⟨by decide, by decide⟩) hP hD hS hA [0, 6, 1, 2, 3, 4, 5] [7, 8, 9] rfl rfl (by decide) (by decide) (fun rx23 ux21 H locs wx22 hP hD hS => ?_)
    have hx24 : rx23 = 0 := wx22
    subst hx24
    have hP : va_P D vwCl [((ma 0), .inr (10, [.int 0, .ref (ma 1), .int 0, .int 0, .ref (ma 4), .ref (ma 5), .ref (ma 6), .int 0, .int 0, .ref (ma 9), .ref (ma 10), .ref (ma 11), .ref (ma 12), .int 0, .ref (ma 14), .ref (ma 15), .int 0, .int 0, .ref (ma 18), .ref (ma 19), .ref (ma 20), .ref (ma 21), .ref (ma 22), .int 0, .ref (ma 24), .int 0, .ref (ma 26), .int 0, .int 0, .int 0, .int 0, .ref (ma 31), .ref (ma 32), .ref (ma 33), .ref (ma 34), .ref (ma 35), .int 0, .int 0, .ref (ma 38), .ref (ma 39), .ref (ma 40), .long 0])), ((ma 10), .inl (k 1, 220, .inl (mg 10))), ((ma 22), .inl (k 1, 1320, .inl (mg 22)))] H := hP
    have hD : va_D A [((ma 0), .inr (10, [.int 0, .ref (ma 1), .int 0, .int 0, .ref (ma 4), .ref (ma 5), .ref (ma 6), .int 0, .int 0, .ref (ma 9), .ref (ma 10), .ref (ma 11), .ref (ma 12), .int 0, .ref (ma 14), .ref (ma 15), .int 0, .int 0, .ref (ma 18), .ref (ma 19), .ref (ma 20), .ref (ma 21), .ref (ma 22), .int 0, .ref (ma 24), .int 0, .ref (ma 26), .int 0, .int 0, .int 0, .int 0, .ref (ma 31), .ref (ma 32), .ref (ma 33), .ref (ma 34), .ref (ma 35), .int 0, .int 0, .ref (ma 38), .ref (ma 39), .ref (ma 40), .long 0])), ((ma 10), .inl (k 1, 220, .inl (mg 10))), ((ma 22), .inl (k 1, 1320, .inl (mg 22)))] := hD
    refine lv_aload_n hx hb dL_law_858 rfl (lv_at hl 2 rfl) ?_
    refine lv_aload_n hx hb dL_law_859 rfl (lv_at hl 4 rfl) ?_
    refine lv_iload hx hb dL_law_860 (lv_at hl 0 rfl) ?_
    refine lv_iconst (v := 1) hx hb dL_law_862 (by decide) ?_
    refine lv_iadd hx hb dL_law_863 ?_
    refine p_topI (v := 1) (by decide) ?_
    refine va_sld hx hb hX hbl hbA hS (show ¬ (_ ∨ _) by decide) dL_law_864 ?_
    refine p_topI (v := 0) cC ?_
    refine p_ji (wr := []) (va_runV (As := [.int 0]) (rest := [.int 0]) ⟨hx, hb, hml, hown, hts⟩ (c_m_match_0 l D k _ ma mg hl0) (cwV 1 hts lg_60 rfl rfl rfl (by decide +kernel) ⟨Nat.le_of_ble_eq_true rfl, Nat.le_of_ble_eq_true rfl⟩) (pV hK hN hP hD [0, 1, 2] rfl (by decide) rfl 0 rfl rfl) rfl rfl hl.1 rfl (lv_room (Nat.le_of_ble_eq_true rfl)) dL_law_865 ⟨by decide, by decide⟩) hP hD hS hA [0, 1, 2] [] rfl rfl (by decide) (by decide) (fun rx27 ux25 H locs wx26 hP hD hS => ?_)
    have hx28 : rx27 = 0 := wx26
    subst hx28
    have hP : va_P D vwCl [] H := hP
    have hD : va_D A [] := hD
    refine lv_icmp_eq (tgt := 1487) hx hb dL_law_868 (by decide) (fun cx29 => ?_) (fun h9 => absurd (by decide) h9)
    refine lv_iinc (v := 7) (lv' := [(4, .int 7), (3, .ref out), (2, .ref (ma 0)), (1, .ref (qa 0)), (0, .ref b)]) hx hb dL_law_1487 hl (k := 0) rfl (by decide) (by decide) rfl (fun ls hl => ?_)
    refine lv_goto (tgt := 23) hx hb dL_law_1490 (by decide) ?_
    refine lv_iload hx hb dL_law_23 (lv_at hl 0 rfl) ?_
    refine lv_aload_n hx hb dL_law_25 rfl (lv_at hl 4 rfl) ?_
    refine va_slen hx hb hX hbl hbA hS dL_law_26 ?_
    refine p_topI (v := 7) (by decide) ?_
    refine lv_bipush (v := 7) hx hb dL_law_27 (by decide) ?_
    refine lv_isub hx hb dL_law_29 ?_
    refine p_topI (v := 0) (by decide) ?_
    refine lv_icmp_gt (tgt := 1493) hx hb dL_law_30 (by decide) (fun cx30 => ?_) (fun h9 => absurd (by decide) h9)
    refine lv_iconst (v := 1) hx hb dL_law_1493 (by decide) ?_
    refine va_forget (fun q hq => hAf _ (hS.2.2 q hq)) ?_
    refine W.widen (k := 600002) (n := 7302232) (by decide) (by decide) ?_
    exact lw_ret hx hb hr hlocks dL_law_1494
  · skip
    refine lv_aload_n hx hb dL_law_848 rfl (lv_at hl 3 rfl) ?_
    refine lv_aload_n hx hb dL_law_849 rfl (lv_at hl 4 rfl) ?_
    refine lv_iload hx hb dL_law_850 (lv_at hl 0 rfl) ?_
    refine lv_iconst (v := 1) hx hb dL_law_852 (by decide) ?_
    refine lv_iadd hx hb dL_law_853 ?_
    refine p_topI (v := 1) (by decide) ?_
    refine va_sld hx hb hX hbl hbA hS (show ¬ (_ ∨ _) by decide) dL_law_854 ?_
    refine p_topI (v := 1) cC ?_
    refine p_ji (wr := [((ma 0), .inr (10, [.int 0, .ref (ma 1), .int 0, .int 0, .ref (ma 4), .ref (ma 5), .ref (ma 6), .int 0, .int 0, .ref (ma 9), .ref (ma 10), .ref (ma 11), .ref (ma 12), .int 0, .ref (ma 14), .ref (ma 15), .int 0, .int 0, .ref (ma 18), .ref (ma 19), .ref (ma 20), .ref (ma 21), .ref (ma 22), .int 0, .ref (ma 24), .int 0, .ref (ma 26), .int 0, .int 0, .int 0, .int 0, .ref (ma 31), .ref (ma 32), .ref (ma 33), .ref (ma 34), .ref (ma 35), .int 0, .int 0, .ref (ma 38), .ref (ma 39), .ref (ma 40), .long 0])), ((ma 10), .inl (k 1, 220, .inl (mg 10))), ((ma 22), .inl (k 1, 1320, .inl (mg 22)))]) (va_runV (As := [.int 1]) (rest := []) ⟨hx, hb, hml, hown, hts⟩ (c_match_1 l D k _ qa) (cwV 1 hts lg_61 rfl rfl rfl (by decide +kernel) ⟨Nat.le_of_ble_eq_true rfl, Nat.le_of_ble_eq_true rfl⟩) (pV hK hN hP hD [0, 6, 1, 2, 3, 4, 5] rfl (by decide) rfl 0 rfl rfl) rfl rfl hl.1 rfl (lv_room (Nat.le_of_ble_eq_true rfl)) dL_law_855 ⟨by decide, by decide⟩) hP hD hS hA [0, 6, 1, 2, 3, 4, 5] [7, 8, 9] rfl rfl (by decide) (by decide) (fun rx33 ux31 H locs wx32 hP hD hS => ?_)
    have hx34 : rx33 = 0 := wx32
    subst hx34
    have hP : va_P D vwCl [((ma 0), .inr (10, [.int 0, .ref (ma 1), .int 0, .int 0, .ref (ma 4), .ref (ma 5), .ref (ma 6), .int 0, .int 0, .ref (ma 9), .ref (ma 10), .ref (ma 11), .ref (ma 12), .int 0, .ref (ma 14), .ref (ma 15), .int 0, .int 0, .ref (ma 18), .ref (ma 19), .ref (ma 20), .ref (ma 21), .ref (ma 22), .int 0, .ref (ma 24), .int 0, .ref (ma 26), .int 0, .int 0, .int 0, .int 0, .ref (ma 31), .ref (ma 32), .ref (ma 33), .ref (ma 34), .ref (ma 35), .int 0, .int 0, .ref (ma 38), .ref (ma 39), .ref (ma 40), .long 0])), ((ma 10), .inl (k 1, 220, .inl (mg 10))), ((ma 22), .inl (k 1, 1320, .inl (mg 22)))] H := hP
    have hD : va_D A [((ma 0), .inr (10, [.int 0, .ref (ma 1), .int 0, .int 0, .ref (ma 4), .ref (ma 5), .ref (ma 6), .int 0, .int 0, .ref (ma 9), .ref (ma 10), .ref (ma 11), .ref (ma 12), .int 0, .ref (ma 14), .ref (ma 15), .int 0, .int 0, .ref (ma 18), .ref (ma 19), .ref (ma 20), .ref (ma 21), .ref (ma 22), .int 0, .ref (ma 24), .int 0, .ref (ma 26), .int 0, .int 0, .int 0, .int 0, .ref (ma 31), .ref (ma 32), .ref (ma 33), .ref (ma 34), .ref (ma 35), .int 0, .int 0, .ref (ma 38), .ref (ma 39), .ref (ma 40), .long 0])), ((ma 10), .inl (k 1, 220, .inl (mg 10))), ((ma 22), .inl (k 1, 1320, .inl (mg 22)))] := hD
    refine lv_aload_n hx hb dL_law_858 rfl (lv_at hl 2 rfl) ?_
    refine lv_aload_n hx hb dL_law_859 rfl (lv_at hl 4 rfl) ?_
    refine lv_iload hx hb dL_law_860 (lv_at hl 0 rfl) ?_
    refine lv_iconst (v := 1) hx hb dL_law_862 (by decide) ?_
    refine lv_iadd hx hb dL_law_863 ?_
    refine p_topI (v := 1) (by decide) ?_
    refine va_sld hx hb hX hbl hbA hS (show ¬ (_ ∨ _) by decide) dL_law_864 ?_
    refine p_topI (v := 1) cC ?_
    refine p_ji (wr := []) (va_runV (As := [.int 1]) (rest := [.int 0]) ⟨hx, hb, hml, hown, hts⟩ (c_m_match_1 l D k _ ma mg hl0) (cwV 1 hts lg_62 rfl rfl rfl (by decide +kernel) ⟨Nat.le_of_ble_eq_true rfl, Nat.le_of_ble_eq_true rfl⟩) (pV hK hN hP hD [0, 1, 2] rfl (by decide) rfl 0 rfl rfl) rfl rfl hl.1 rfl (lv_room (Nat.le_of_ble_eq_true rfl)) dL_law_865 ⟨by decide, by decide⟩) hP hD hS hA [0, 1, 2] [] rfl rfl (by decide) (by decide) (fun rx37 ux35 H locs wx36 hP hD hS => ?_)
    have hx38 : rx37 = 0 := wx36
    subst hx38
    have hP : va_P D vwCl [] H := hP
    have hD : va_D A [] := hD
    refine lv_icmp_eq (tgt := 1487) hx hb dL_law_868 (by decide) (fun cx39 => ?_) (fun h9 => absurd (by decide) h9)
    refine lv_iinc (v := 7) (lv' := [(4, .int 7), (3, .ref out), (2, .ref (ma 0)), (1, .ref (qa 0)), (0, .ref b)]) hx hb dL_law_1487 hl (k := 0) rfl (by decide) (by decide) rfl (fun ls hl => ?_)
    refine lv_goto (tgt := 23) hx hb dL_law_1490 (by decide) ?_
    refine lv_iload hx hb dL_law_23 (lv_at hl 0 rfl) ?_
    refine lv_aload_n hx hb dL_law_25 rfl (lv_at hl 4 rfl) ?_
    refine va_slen hx hb hX hbl hbA hS dL_law_26 ?_
    refine p_topI (v := 7) (by decide) ?_
    refine lv_bipush (v := 7) hx hb dL_law_27 (by decide) ?_
    refine lv_isub hx hb dL_law_29 ?_
    refine p_topI (v := 0) (by decide) ?_
    refine lv_icmp_gt (tgt := 1493) hx hb dL_law_30 (by decide) (fun cx40 => ?_) (fun h9 => absurd (by decide) h9)
    refine lv_iconst (v := 1) hx hb dL_law_1493 (by decide) ?_
    refine va_forget (fun q hq => hAf _ (hS.2.2 q hq)) ?_
    refine W.widen (k := 600002) (n := 7302232) (by decide) (by decide) ?_
    exact lw_ret hx hb hr hlocks dL_law_1494
  · skip
    refine lv_aload_n hx hb dL_law_848 rfl (lv_at hl 3 rfl) ?_
    refine lv_aload_n hx hb dL_law_849 rfl (lv_at hl 4 rfl) ?_
    refine lv_iload hx hb dL_law_850 (lv_at hl 0 rfl) ?_
    refine lv_iconst (v := 1) hx hb dL_law_852 (by decide) ?_
    refine lv_iadd hx hb dL_law_853 ?_
    refine p_topI (v := 1) (by decide) ?_
    refine va_sld hx hb hX hbl hbA hS (show ¬ (_ ∨ _) by decide) dL_law_854 ?_
    refine p_topI (v := 2) cC ?_
    refine p_ji (wr := [((ma 0), .inr (10, [.int 0, .ref (ma 1), .int 0, .int 0, .ref (ma 4), .ref (ma 5), .ref (ma 6), .int 0, .int 0, .ref (ma 9), .ref (ma 10), .ref (ma 11), .ref (ma 12), .int 0, .ref (ma 14), .ref (ma 15), .int 0, .int 0, .ref (ma 18), .ref (ma 19), .ref (ma 20), .ref (ma 21), .ref (ma 22), .int 0, .ref (ma 24), .int 0, .ref (ma 26), .int 0, .int 0, .int 0, .int 0, .ref (ma 31), .ref (ma 32), .ref (ma 33), .ref (ma 34), .ref (ma 35), .int 0, .int 0, .ref (ma 38), .ref (ma 39), .ref (ma 40), .long 0])), ((ma 10), .inl (k 1, 220, .inl (mg 10))), ((ma 22), .inl (k 1, 1320, .inl (mg 22)))]) (va_runV (As := [.int 2]) (rest := []) ⟨hx, hb, hml, hown, hts⟩ (c_match_2 l D k _ qa) (cwV 1 hts lg_63 rfl rfl rfl (by decide +kernel) ⟨Nat.le_of_ble_eq_true rfl, Nat.le_of_ble_eq_true rfl⟩) (pV hK hN hP hD [0, 6, 1, 2, 3, 4, 5] rfl (by decide) rfl 0 rfl rfl) rfl rfl hl.1 rfl (lv_room (Nat.le_of_ble_eq_true rfl)) dL_law_855 ⟨by decide, by decide⟩) hP hD hS hA [0, 6, 1, 2, 3, 4, 5] [7, 8, 9] rfl rfl (by decide) (by decide) (fun rx43 ux41 H locs wx42 hP hD hS => ?_)
    have hx44 : rx43 = 1 := wx42
    subst hx44
    have hP : va_P D vwCl [((ma 0), .inr (10, [.int 0, .ref (ma 1), .int 0, .int 0, .ref (ma 4), .ref (ma 5), .ref (ma 6), .int 0, .int 0, .ref (ma 9), .ref (ma 10), .ref (ma 11), .ref (ma 12), .int 0, .ref (ma 14), .ref (ma 15), .int 0, .int 0, .ref (ma 18), .ref (ma 19), .ref (ma 20), .ref (ma 21), .ref (ma 22), .int 0, .ref (ma 24), .int 0, .ref (ma 26), .int 0, .int 0, .int 0, .int 0, .ref (ma 31), .ref (ma 32), .ref (ma 33), .ref (ma 34), .ref (ma 35), .int 0, .int 0, .ref (ma 38), .ref (ma 39), .ref (ma 40), .long 0])), ((ma 10), .inl (k 1, 220, .inl (mg 10))), ((ma 22), .inl (k 1, 1320, .inl (mg 22)))] H := hP
    have hD : va_D A [((ma 0), .inr (10, [.int 0, .ref (ma 1), .int 0, .int 0, .ref (ma 4), .ref (ma 5), .ref (ma 6), .int 0, .int 0, .ref (ma 9), .ref (ma 10), .ref (ma 11), .ref (ma 12), .int 0, .ref (ma 14), .ref (ma 15), .int 0, .int 0, .ref (ma 18), .ref (ma 19), .ref (ma 20), .ref (ma 21), .ref (ma 22), .int 0, .ref (ma 24), .int 0, .ref (ma 26), .int 0, .int 0, .int 0, .int 0, .ref (ma 31), .ref (ma 32), .ref (ma 33), .ref (ma 34), .ref (ma 35), .int 0, .int 0, .ref (ma 38), .ref (ma 39), .ref (ma 40), .long 0])), ((ma 10), .inl (k 1, 220, .inl (mg 10))), ((ma 22), .inl (k 1, 1320, .inl (mg 22)))] := hD
    refine lv_aload_n hx hb dL_law_858 rfl (lv_at hl 2 rfl) ?_
    refine lv_aload_n hx hb dL_law_859 rfl (lv_at hl 4 rfl) ?_
    refine lv_iload hx hb dL_law_860 (lv_at hl 0 rfl) ?_
    refine lv_iconst (v := 1) hx hb dL_law_862 (by decide) ?_
    refine lv_iadd hx hb dL_law_863 ?_
    refine p_topI (v := 1) (by decide) ?_
    refine va_sld hx hb hX hbl hbA hS (show ¬ (_ ∨ _) by decide) dL_law_864 ?_
    refine p_topI (v := 2) cC ?_
    refine p_ji (wr := []) (va_runV (As := [.int 2]) (rest := [.int 1]) ⟨hx, hb, hml, hown, hts⟩ (c_m_match_2 l D k _ ma mg hl0) (cwV 1 hts lg_64 rfl rfl rfl (by decide +kernel) ⟨Nat.le_of_ble_eq_true rfl, Nat.le_of_ble_eq_true rfl⟩) (pV hK hN hP hD [0, 1, 2] rfl (by decide) rfl 0 rfl rfl) rfl rfl hl.1 rfl (lv_room (Nat.le_of_ble_eq_true rfl)) dL_law_865 ⟨by decide, by decide⟩) hP hD hS hA [0, 1, 2] [] rfl rfl (by decide) (by decide) (fun rx47 ux45 H locs wx46 hP hD hS => ?_)
    have hx48 : rx47 = 1 := wx46
    subst hx48
    have hP : va_P D vwCl [] H := hP
    have hD : va_D A [] := hD
    refine lv_icmp_eq (tgt := 1487) hx hb dL_law_868 (by decide) (fun cx49 => ?_) (fun h9 => absurd (by decide) h9)
    refine lv_iinc (v := 7) (lv' := [(4, .int 7), (3, .ref out), (2, .ref (ma 0)), (1, .ref (qa 0)), (0, .ref b)]) hx hb dL_law_1487 hl (k := 0) rfl (by decide) (by decide) rfl (fun ls hl => ?_)
    refine lv_goto (tgt := 23) hx hb dL_law_1490 (by decide) ?_
    refine lv_iload hx hb dL_law_23 (lv_at hl 0 rfl) ?_
    refine lv_aload_n hx hb dL_law_25 rfl (lv_at hl 4 rfl) ?_
    refine va_slen hx hb hX hbl hbA hS dL_law_26 ?_
    refine p_topI (v := 7) (by decide) ?_
    refine lv_bipush (v := 7) hx hb dL_law_27 (by decide) ?_
    refine lv_isub hx hb dL_law_29 ?_
    refine p_topI (v := 0) (by decide) ?_
    refine lv_icmp_gt (tgt := 1493) hx hb dL_law_30 (by decide) (fun cx50 => ?_) (fun h9 => absurd (by decide) h9)
    refine lv_iconst (v := 1) hx hb dL_law_1493 (by decide) ?_
    refine va_forget (fun q hq => hAf _ (hS.2.2 q hq)) ?_
    refine W.widen (k := 600002) (n := 7302232) (by decide) (by decide) ?_
    exact lw_ret hx hb hr hlocks dL_law_1494
set_option maxHeartbeats 4000000 in
set_option maxRecDepth 100000 in
theorem lc_chain {p : Program} {e : Env} {s : State} {m : MethodId} {below : List Frame} {meth : Method} {c : Code} (l : Launch) {b : Nat} {xs : Nat → Int32} (C0 : lw_At p s m meth c b 7 xs) (hts : ∀ w ∈ p_tbl, w.before #[Value.ref b] s = true) {D : va_G} {k : Nat → ClassId} (hK : va_K D vwCl (pT k) s) (hN : pN s) {A : Nat → Prop} (hA : ∀ q : Nat, s.heap.size ≤ q → A q) (hAf : ∀ q : Nat, A q → s.heap.size ≤ q) (qa ma : Nat → Nat) (gs mg : Nat → Nat → Int32) (out : Nat) (hf : p_mf mg) {H : Heap} {locs : List Loc} {ls : Array Slot} (hP : va_P D vwCl (p_big k qa ma gs mg) H) (hD : va_D A (p_big k qa ma gs mg)) (hS : va_S A s.heap H locs) (hl : lv_has ls 7 [(4, .int 0), (3, .ref out), (2, .ref (ma 0)), (1, .ref (qa 0)), (0, .ref b)]) : W p l e room_1 s m #[Value.ref b] below meth c H locs 265 37830 (lw_Z below #[Value.ref b] s) (F0 m 873 ls []) := by
  obtain ⟨hx, hb, hr, hml, hown, -, hX, hbl, hlocks, hgv⟩ := C0
  obtain ⟨hl0, hl1, hl2, hs0, hs19, hs26, hn0, hm0, hm1, hm2, hm3⟩ := hf
  have hbA : ¬ A b := fun h => absurd (hAf b h) (Nat.not_le.mpr hbl)
  have hP := hP.sub (ws' := [((qa 0), .inr (9, [.ref (qa 1), .ref (qa 6), .ref (qa 9), .ref (qa 17), .ref (qa 18), .ref (qa 19), .ref (qa 20), .ref (qa 23), .ref (qa 25), .ref (qa 28), .ref (qa 29), .ref (qa 30), .ref (qa 31), .int 0, .int 0, .int 0])), ((qa 30), .inr (2, [.ref (qa 133), .ref (qa 134), .ref (qa 135), .ref (qa 136), .ref (qa 137), .ref (qa 138), .ref (qa 139), .int 0, .int 0, .int 0, .int 0, .int 0])), ((ma 0), .inr (10, [.int 0, .ref (ma 1), .int 0, .int 0, .ref (ma 4), .ref (ma 5), .ref (ma 6), .int 0, .int 0, .ref (ma 9), .ref (ma 10), .ref (ma 11), .ref (ma 12), .int 0, .ref (ma 14), .ref (ma 15), .int 0, .int 0, .ref (ma 18), .ref (ma 19), .ref (ma 20), .ref (ma 21), .ref (ma 22), .int 0, .ref (ma 24), .int 0, .ref (ma 26), .int 0, .int 0, .int 0, .int 0, .ref (ma 31), .ref (ma 32), .ref (ma 33), .ref (ma 34), .ref (ma 35), .int 0, .int 0, .ref (ma 38), .ref (ma 39), .ref (ma 40), .long 0])), ((ma 10), .inl (k 1, 220, .inl (mg 10)))]) [0, 30, 133, 137] rfl
  have hD := hD.sub (ws' := [((qa 0), .inr (9, [.ref (qa 1), .ref (qa 6), .ref (qa 9), .ref (qa 17), .ref (qa 18), .ref (qa 19), .ref (qa 20), .ref (qa 23), .ref (qa 25), .ref (qa 28), .ref (qa 29), .ref (qa 30), .ref (qa 31), .int 0, .int 0, .int 0])), ((qa 30), .inr (2, [.ref (qa 133), .ref (qa 134), .ref (qa 135), .ref (qa 136), .ref (qa 137), .ref (qa 138), .ref (qa 139), .int 0, .int 0, .int 0, .int 0, .int 0])), ((ma 0), .inr (10, [.int 0, .ref (ma 1), .int 0, .int 0, .ref (ma 4), .ref (ma 5), .ref (ma 6), .int 0, .int 0, .ref (ma 9), .ref (ma 10), .ref (ma 11), .ref (ma 12), .int 0, .ref (ma 14), .ref (ma 15), .int 0, .int 0, .ref (ma 18), .ref (ma 19), .ref (ma 20), .ref (ma 21), .ref (ma 22), .int 0, .ref (ma 24), .int 0, .ref (ma 26), .int 0, .int 0, .int 0, .int 0, .ref (ma 31), .ref (ma 32), .ref (ma 33), .ref (ma 34), .ref (ma 35), .int 0, .int 0, .ref (ma 38), .ref (ma 39), .ref (ma 40), .long 0])), ((ma 10), .inl (k 1, 220, .inl (mg 10)))]) [0, 30, 133, 137] (by decide) rfl
  refine lv_aload_n hx hb dL_law_873 rfl (lv_at hl 3 rfl) ?_
  refine lv_aload_n hx hb dL_law_874 rfl (lv_at hl 4 rfl) ?_
  refine lv_iload hx hb dL_law_875 (lv_at hl 0 rfl) ?_
  refine lv_iconst (v := 1) hx hb dL_law_877 (by decide) ?_
  refine lv_iadd hx hb dL_law_878 ?_
  refine p_topI (v := 1) (by decide) ?_
  refine va_sld hx hb hX hbl hbA hS (show ¬ (_ ∨ _) by decide) dL_law_879 ?_
  refine p_topI (v := (xs 1)) rfl ?_
  refine lv_aload_n hx hb dL_law_880 rfl (lv_at hl 4 rfl) ?_
  refine lv_iload hx hb dL_law_881 (lv_at hl 0 rfl) ?_
  refine lv_iconst (v := 2) hx hb dL_law_883 (by decide) ?_
  refine lv_iadd hx hb dL_law_884 ?_
  refine p_topI (v := 2) (by decide) ?_
  refine va_sld hx hb hX hbl hbA hS (show ¬ (_ ∨ _) by decide) dL_law_885 ?_
  refine p_topI (v := (xs 2)) rfl ?_
  refine lv_aload_n hx hb dL_law_886 rfl (lv_at hl 4 rfl) ?_
  refine lv_iload hx hb dL_law_887 (lv_at hl 0 rfl) ?_
  refine lv_iconst (v := 3) hx hb dL_law_889 (by decide) ?_
  refine lv_iadd hx hb dL_law_890 ?_
  refine p_topI (v := 3) (by decide) ?_
  refine va_sld hx hb hX hbl hbA hS (show ¬ (_ ∨ _) by decide) dL_law_891 ?_
  refine p_topI (v := (xs 3)) rfl ?_
  refine p_ji (wr := [((ma 0), .inr (10, [.int 0, .ref (ma 1), .int 0, .int 0, .ref (ma 4), .ref (ma 5), .ref (ma 6), .int 0, .int 0, .ref (ma 9), .ref (ma 10), .ref (ma 11), .ref (ma 12), .int 0, .ref (ma 14), .ref (ma 15), .int 0, .int 0, .ref (ma 18), .ref (ma 19), .ref (ma 20), .ref (ma 21), .ref (ma 22), .int 0, .ref (ma 24), .int 0, .ref (ma 26), .int 0, .int 0, .int 0, .int 0, .ref (ma 31), .ref (ma 32), .ref (ma 33), .ref (ma 34), .ref (ma 35), .int 0, .int 0, .ref (ma 38), .ref (ma 39), .ref (ma 40), .long 0])), ((ma 10), .inl (k 1, 220, .inl (mg 10)))]) (va_runV (As := [.int (xs 1), .int (xs 2), .int (xs 3)]) (rest := []) ⟨hx, hb, hml, hown, hts⟩ (c_chain l D k _ qa (xs 1) (xs 2) (xs 3)) (cwV 3 hts lg_65 rfl rfl rfl (by decide +kernel) ⟨Nat.le_of_ble_eq_true rfl, Nat.le_of_ble_eq_true rfl⟩) (pV hK hN hP hD [0, 1] rfl (by decide) rfl 0 rfl rfl) rfl rfl hl.1 rfl (lv_room (Nat.le_of_ble_eq_true rfl)) dL_law_892 ⟨by decide, by decide⟩) hP hD hS hA [0, 1] [2, 3] rfl rfl (by decide) (by decide) (fun rx3 ux1 H locs wx2 hP hD hS => ?_)
  have hx4 : rx3 = (-1) := wx2
  subst hx4
  have hP : va_P D vwCl [((ma 0), .inr (10, [.int 0, .ref (ma 1), .int 0, .int 0, .ref (ma 4), .ref (ma 5), .ref (ma 6), .int 0, .int 0, .ref (ma 9), .ref (ma 10), .ref (ma 11), .ref (ma 12), .int 0, .ref (ma 14), .ref (ma 15), .int 0, .int 0, .ref (ma 18), .ref (ma 19), .ref (ma 20), .ref (ma 21), .ref (ma 22), .int 0, .ref (ma 24), .int 0, .ref (ma 26), .int 0, .int 0, .int 0, .int 0, .ref (ma 31), .ref (ma 32), .ref (ma 33), .ref (ma 34), .ref (ma 35), .int 0, .int 0, .ref (ma 38), .ref (ma 39), .ref (ma 40), .long 0])), ((ma 10), .inl (k 1, 220, .inl (mg 10)))] H := hP
  have hD : va_D A [((ma 0), .inr (10, [.int 0, .ref (ma 1), .int 0, .int 0, .ref (ma 4), .ref (ma 5), .ref (ma 6), .int 0, .int 0, .ref (ma 9), .ref (ma 10), .ref (ma 11), .ref (ma 12), .int 0, .ref (ma 14), .ref (ma 15), .int 0, .int 0, .ref (ma 18), .ref (ma 19), .ref (ma 20), .ref (ma 21), .ref (ma 22), .int 0, .ref (ma 24), .int 0, .ref (ma 26), .int 0, .int 0, .int 0, .int 0, .ref (ma 31), .ref (ma 32), .ref (ma 33), .ref (ma 34), .ref (ma 35), .int 0, .int 0, .ref (ma 38), .ref (ma 39), .ref (ma 40), .long 0])), ((ma 10), .inl (k 1, 220, .inl (mg 10)))] := hD
  refine lv_aload_n hx hb dL_law_895 rfl (lv_at hl 2 rfl) ?_
  refine lv_aload_n hx hb dL_law_896 rfl (lv_at hl 4 rfl) ?_
  refine lv_iload hx hb dL_law_897 (lv_at hl 0 rfl) ?_
  refine lv_iconst (v := 1) hx hb dL_law_899 (by decide) ?_
  refine lv_iadd hx hb dL_law_900 ?_
  refine p_topI (v := 1) (by decide) ?_
  refine va_sld hx hb hX hbl hbA hS (show ¬ (_ ∨ _) by decide) dL_law_901 ?_
  refine p_topI (v := (xs 1)) rfl ?_
  refine lv_aload_n hx hb dL_law_902 rfl (lv_at hl 4 rfl) ?_
  refine lv_iload hx hb dL_law_903 (lv_at hl 0 rfl) ?_
  refine lv_iconst (v := 2) hx hb dL_law_905 (by decide) ?_
  refine lv_iadd hx hb dL_law_906 ?_
  refine p_topI (v := 2) (by decide) ?_
  refine va_sld hx hb hX hbl hbA hS (show ¬ (_ ∨ _) by decide) dL_law_907 ?_
  refine p_topI (v := (xs 2)) rfl ?_
  refine lv_aload_n hx hb dL_law_908 rfl (lv_at hl 4 rfl) ?_
  refine lv_iload hx hb dL_law_909 (lv_at hl 0 rfl) ?_
  refine lv_iconst (v := 3) hx hb dL_law_911 (by decide) ?_
  refine lv_iadd hx hb dL_law_912 ?_
  refine p_topI (v := 3) (by decide) ?_
  refine va_sld hx hb hX hbl hbA hS (show ¬ (_ ∨ _) by decide) dL_law_913 ?_
  refine p_topI (v := (xs 3)) rfl ?_
  refine p_ji (wr := []) (va_runV (As := [.int (xs 1), .int (xs 2), .int (xs 3)]) (rest := [.int (-1)]) ⟨hx, hb, hml, hown, hts⟩ (c_m_chain l D k _ ma mg (xs 1) (xs 2) (xs 3) hl0) (cwV 3 hts lg_66 rfl rfl rfl (by decide +kernel) ⟨Nat.le_of_ble_eq_true rfl, Nat.le_of_ble_eq_true rfl⟩) (pV hK hN hP hD [0, 1] rfl (by decide) rfl 0 rfl rfl) rfl rfl hl.1 rfl (lv_room (Nat.le_of_ble_eq_true rfl)) dL_law_914 ⟨by decide, by decide⟩) hP hD hS hA [0, 1] [] rfl rfl (by decide) (by decide) (fun rx7 ux5 H locs wx6 hP hD hS => ?_)
  have hx8 : rx7 = (-1) := wx6
  subst hx8
  have hP : va_P D vwCl [] H := hP
  have hD : va_D A [] := hD
  refine lv_icmp_eq (tgt := 1487) hx hb dL_law_917 (by decide) (fun cx9 => ?_) (fun h9 => absurd (by decide) h9)
  refine lv_iinc (v := 7) (lv' := [(4, .int 7), (3, .ref out), (2, .ref (ma 0)), (1, .ref (qa 0)), (0, .ref b)]) hx hb dL_law_1487 hl (k := 0) rfl (by decide) (by decide) rfl (fun ls hl => ?_)
  refine lv_goto (tgt := 23) hx hb dL_law_1490 (by decide) ?_
  refine lv_iload hx hb dL_law_23 (lv_at hl 0 rfl) ?_
  refine lv_aload_n hx hb dL_law_25 rfl (lv_at hl 4 rfl) ?_
  refine va_slen hx hb hX hbl hbA hS dL_law_26 ?_
  refine p_topI (v := 7) (by decide) ?_
  refine lv_bipush (v := 7) hx hb dL_law_27 (by decide) ?_
  refine lv_isub hx hb dL_law_29 ?_
  refine p_topI (v := 0) (by decide) ?_
  refine lv_icmp_gt (tgt := 1493) hx hb dL_law_30 (by decide) (fun cx10 => ?_) (fun h9 => absurd (by decide) h9)
  refine lv_iconst (v := 1) hx hb dL_law_1493 (by decide) ?_
  refine va_forget (fun q hq => hAf _ (hS.2.2 q hq)) ?_
  refine W.widen (k := 600002) (n := 7302232) (by decide) (by decide) ?_
  exact lw_ret hx hb hr hlocks dL_law_1494
set_option maxHeartbeats 4000000 in
set_option maxRecDepth 100000 in
theorem lc_peace {p : Program} {e : Env} {s : State} {m : MethodId} {below : List Frame} {meth : Method} {c : Code} (l : Launch) {b : Nat} {xs : Nat → Int32} (C0 : lw_At p s m meth c b 7 xs) (hts : ∀ w ∈ p_tbl, w.before #[Value.ref b] s = true) {D : va_G} {k : Nat → ClassId} (hK : va_K D vwCl (pT k) s) (hN : pN s) {A : Nat → Prop} (hA : ∀ q : Nat, s.heap.size ≤ q → A q) (hAf : ∀ q : Nat, A q → s.heap.size ≤ q) (qa ma : Nat → Nat) (gs mg : Nat → Nat → Int32) (out : Nat) (hf : p_mf mg) {H : Heap} {locs : List Loc} {ls : Array Slot} (hP : va_P D vwCl (p_big k qa ma gs mg) H) (hD : va_D A (p_big k qa ma gs mg)) (hS : va_S A s.heap H locs) (hl : lv_has ls 7 [(4, .int 0), (3, .ref out), (2, .ref (ma 0)), (1, .ref (qa 0)), (0, .ref b)]) : W p l e room_1 s m #[Value.ref b] below meth c H locs 265 37830 (lw_Z below #[Value.ref b] s) (F0 m 922 ls []) := by
  obtain ⟨hx, hb, hr, hml, hown, -, hX, hbl, hlocks, hgv⟩ := C0
  obtain ⟨hl0, hl1, hl2, hs0, hs19, hs26, hn0, hm0, hm1, hm2, hm3⟩ := hf
  have hbA : ¬ A b := fun h => absurd (hAf b h) (Nat.not_le.mpr hbl)
  have hP := hP.sub (ws' := [((qa 0), .inr (9, [.ref (qa 1), .ref (qa 6), .ref (qa 9), .ref (qa 17), .ref (qa 18), .ref (qa 19), .ref (qa 20), .ref (qa 23), .ref (qa 25), .ref (qa 28), .ref (qa 29), .ref (qa 30), .ref (qa 31), .int 0, .int 0, .int 0])), ((qa 9), .inr (8, [.ref (qa 10), .ref (qa 11), .ref (qa 12), .ref (qa 13), .ref (qa 14), .ref (qa 15), .ref (qa 16), .int 0, .int (-1), .int 0, .int 0])), ((qa 20), .inr (4, [.ref (qa 21), .ref (qa 22), .ref (qa 30)])), ((qa 21), .inl (k 1, 6, .inl (fun _ => 0))), ((qa 22), .inl (k 1, 6, .inl (fun _ => 0))), ((qa 30), .inr (2, [.ref (qa 133), .ref (qa 134), .ref (qa 135), .ref (qa 136), .ref (qa 137), .ref (qa 138), .ref (qa 139), .int 0, .int 0, .int 0, .int 0, .int 0])), ((ma 0), .inr (10, [.int 0, .ref (ma 1), .int 0, .int 0, .ref (ma 4), .ref (ma 5), .ref (ma 6), .int 0, .int 0, .ref (ma 9), .ref (ma 10), .ref (ma 11), .ref (ma 12), .int 0, .ref (ma 14), .ref (ma 15), .int 0, .int 0, .ref (ma 18), .ref (ma 19), .ref (ma 20), .ref (ma 21), .ref (ma 22), .int 0, .ref (ma 24), .int 0, .ref (ma 26), .int 0, .int 0, .int 0, .int 0, .ref (ma 31), .ref (ma 32), .ref (ma 33), .ref (ma 34), .ref (ma 35), .int 0, .int 0, .ref (ma 38), .ref (ma 39), .ref (ma 40), .long 0])), ((ma 10), .inl (k 1, 220, .inl (mg 10))), ((ma 22), .inl (k 1, 1320, .inl (mg 22)))]) [0, 9, 20, 21, 22, 30, 133, 137, 141] rfl
  have hD := hD.sub (ws' := [((qa 0), .inr (9, [.ref (qa 1), .ref (qa 6), .ref (qa 9), .ref (qa 17), .ref (qa 18), .ref (qa 19), .ref (qa 20), .ref (qa 23), .ref (qa 25), .ref (qa 28), .ref (qa 29), .ref (qa 30), .ref (qa 31), .int 0, .int 0, .int 0])), ((qa 9), .inr (8, [.ref (qa 10), .ref (qa 11), .ref (qa 12), .ref (qa 13), .ref (qa 14), .ref (qa 15), .ref (qa 16), .int 0, .int (-1), .int 0, .int 0])), ((qa 20), .inr (4, [.ref (qa 21), .ref (qa 22), .ref (qa 30)])), ((qa 21), .inl (k 1, 6, .inl (fun _ => 0))), ((qa 22), .inl (k 1, 6, .inl (fun _ => 0))), ((qa 30), .inr (2, [.ref (qa 133), .ref (qa 134), .ref (qa 135), .ref (qa 136), .ref (qa 137), .ref (qa 138), .ref (qa 139), .int 0, .int 0, .int 0, .int 0, .int 0])), ((ma 0), .inr (10, [.int 0, .ref (ma 1), .int 0, .int 0, .ref (ma 4), .ref (ma 5), .ref (ma 6), .int 0, .int 0, .ref (ma 9), .ref (ma 10), .ref (ma 11), .ref (ma 12), .int 0, .ref (ma 14), .ref (ma 15), .int 0, .int 0, .ref (ma 18), .ref (ma 19), .ref (ma 20), .ref (ma 21), .ref (ma 22), .int 0, .ref (ma 24), .int 0, .ref (ma 26), .int 0, .int 0, .int 0, .int 0, .ref (ma 31), .ref (ma 32), .ref (ma 33), .ref (ma 34), .ref (ma 35), .int 0, .int 0, .ref (ma 38), .ref (ma 39), .ref (ma 40), .long 0])), ((ma 10), .inl (k 1, 220, .inl (mg 10))), ((ma 22), .inl (k 1, 1320, .inl (mg 22)))]) [0, 9, 20, 21, 22, 30, 133, 137, 141] (by decide) rfl
  refine lv_aload_n hx hb dL_law_922 rfl (lv_at hl 3 rfl) ?_
  refine p_ji (wr := [((ma 0), .inr (10, [.int 0, .ref (ma 1), .int 0, .int 0, .ref (ma 4), .ref (ma 5), .ref (ma 6), .int 0, .int 0, .ref (ma 9), .ref (ma 10), .ref (ma 11), .ref (ma 12), .int 0, .ref (ma 14), .ref (ma 15), .int 0, .int 0, .ref (ma 18), .ref (ma 19), .ref (ma 20), .ref (ma 21), .ref (ma 22), .int 0, .ref (ma 24), .int 0, .ref (ma 26), .int 0, .int 0, .int 0, .int 0, .ref (ma 31), .ref (ma 32), .ref (ma 33), .ref (ma 34), .ref (ma 35), .int 0, .int 0, .ref (ma 38), .ref (ma 39), .ref (ma 40), .long 0])), ((ma 10), .inl (k 1, 220, .inl (mg 10))), ((ma 22), .inl (k 1, 1320, .inl (mg 22)))]) (va_runV (As := []) (rest := []) ⟨hx, hb, hml, hown, hts⟩ (c_peace l D k _ qa) (cwV 0 hts lg_67 rfl rfl rfl (by decide +kernel) ⟨Nat.le_of_ble_eq_true rfl, Nat.le_of_ble_eq_true rfl⟩) (pV hK hN hP hD [0, 1, 5, 2, 3, 4] rfl (by decide) rfl 0 rfl rfl) rfl rfl hl.1 rfl (lv_room (Nat.le_of_ble_eq_true rfl)) dL_law_923 ⟨by decide, by decide⟩) hP hD hS hA [0, 1, 5, 2, 3, 4] [6, 7, 8] rfl rfl (by decide) (by decide) (fun rx3 ux1 H locs wx2 hP hD hS => ?_)
  have hx4 : rx3 = 0 := wx2
  subst hx4
  have hP : va_P D vwCl [((ma 0), .inr (10, [.int 0, .ref (ma 1), .int 0, .int 0, .ref (ma 4), .ref (ma 5), .ref (ma 6), .int 0, .int 0, .ref (ma 9), .ref (ma 10), .ref (ma 11), .ref (ma 12), .int 0, .ref (ma 14), .ref (ma 15), .int 0, .int 0, .ref (ma 18), .ref (ma 19), .ref (ma 20), .ref (ma 21), .ref (ma 22), .int 0, .ref (ma 24), .int 0, .ref (ma 26), .int 0, .int 0, .int 0, .int 0, .ref (ma 31), .ref (ma 32), .ref (ma 33), .ref (ma 34), .ref (ma 35), .int 0, .int 0, .ref (ma 38), .ref (ma 39), .ref (ma 40), .long 0])), ((ma 10), .inl (k 1, 220, .inl (mg 10))), ((ma 22), .inl (k 1, 1320, .inl (mg 22)))] H := hP
  have hD : va_D A [((ma 0), .inr (10, [.int 0, .ref (ma 1), .int 0, .int 0, .ref (ma 4), .ref (ma 5), .ref (ma 6), .int 0, .int 0, .ref (ma 9), .ref (ma 10), .ref (ma 11), .ref (ma 12), .int 0, .ref (ma 14), .ref (ma 15), .int 0, .int 0, .ref (ma 18), .ref (ma 19), .ref (ma 20), .ref (ma 21), .ref (ma 22), .int 0, .ref (ma 24), .int 0, .ref (ma 26), .int 0, .int 0, .int 0, .int 0, .ref (ma 31), .ref (ma 32), .ref (ma 33), .ref (ma 34), .ref (ma 35), .int 0, .int 0, .ref (ma 38), .ref (ma 39), .ref (ma 40), .long 0])), ((ma 10), .inl (k 1, 220, .inl (mg 10))), ((ma 22), .inl (k 1, 1320, .inl (mg 22)))] := hD
  refine lv_aload_n hx hb dL_law_926 rfl (lv_at hl 2 rfl) ?_
  refine p_ji (wr := []) (va_runV (As := []) (rest := [.int 0]) ⟨hx, hb, hml, hown, hts⟩ (c_m_peace l D k _ ma mg hl0) (cwV 0 hts lg_68 rfl rfl rfl (by decide +kernel) ⟨Nat.le_of_ble_eq_true rfl, Nat.le_of_ble_eq_true rfl⟩) (pV hK hN hP hD [0, 1, 2] rfl (by decide) rfl 0 rfl rfl) rfl rfl hl.1 rfl (lv_room (Nat.le_of_ble_eq_true rfl)) dL_law_927 ⟨by decide, by decide⟩) hP hD hS hA [0, 1, 2] [] rfl rfl (by decide) (by decide) (fun rx7 ux5 H locs wx6 hP hD hS => ?_)
  have hx8 : rx7 = 0 := wx6
  subst hx8
  have hP : va_P D vwCl [] H := hP
  have hD : va_D A [] := hD
  refine lv_icmp_eq (tgt := 1487) hx hb dL_law_930 (by decide) (fun cx9 => ?_) (fun h9 => absurd (by decide) h9)
  refine lv_iinc (v := 7) (lv' := [(4, .int 7), (3, .ref out), (2, .ref (ma 0)), (1, .ref (qa 0)), (0, .ref b)]) hx hb dL_law_1487 hl (k := 0) rfl (by decide) (by decide) rfl (fun ls hl => ?_)
  refine lv_goto (tgt := 23) hx hb dL_law_1490 (by decide) ?_
  refine lv_iload hx hb dL_law_23 (lv_at hl 0 rfl) ?_
  refine lv_aload_n hx hb dL_law_25 rfl (lv_at hl 4 rfl) ?_
  refine va_slen hx hb hX hbl hbA hS dL_law_26 ?_
  refine p_topI (v := 7) (by decide) ?_
  refine lv_bipush (v := 7) hx hb dL_law_27 (by decide) ?_
  refine lv_isub hx hb dL_law_29 ?_
  refine p_topI (v := 0) (by decide) ?_
  refine lv_icmp_gt (tgt := 1493) hx hb dL_law_30 (by decide) (fun cx10 => ?_) (fun h9 => absurd (by decide) h9)
  refine lv_iconst (v := 1) hx hb dL_law_1493 (by decide) ?_
  refine va_forget (fun q hq => hAf _ (hS.2.2 q hq)) ?_
  refine W.widen (k := 600002) (n := 7302232) (by decide) (by decide) ?_
  exact lw_ret hx hb hr hlocks dL_law_1494
set_option maxHeartbeats 4000000 in
set_option maxRecDepth 100000 in
theorem lc_cathedral {p : Program} {e : Env} {s : State} {m : MethodId} {below : List Frame} {meth : Method} {c : Code} (l : Launch) {b : Nat} {xs : Nat → Int32} (C0 : lw_At p s m meth c b 7 xs) (hts : ∀ w ∈ p_tbl, w.before #[Value.ref b] s = true) {D : va_G} {k : Nat → ClassId} (hK : va_K D vwCl (pT k) s) (hN : pN s) {A : Nat → Prop} (hA : ∀ q : Nat, s.heap.size ≤ q → A q) (hAf : ∀ q : Nat, A q → s.heap.size ≤ q) (qa ma : Nat → Nat) (gs mg : Nat → Nat → Int32) (out : Nat) (hf : p_mf mg) {H : Heap} {locs : List Loc} {ls : Array Slot} (hP : va_P D vwCl (p_big k qa ma gs mg) H) (hD : va_D A (p_big k qa ma gs mg)) (hS : va_S A s.heap H locs) (hl : lv_has ls 7 [(4, .int 0), (3, .ref out), (2, .ref (ma 0)), (1, .ref (qa 0)), (0, .ref b)]) : W p l e room_1 s m #[Value.ref b] below meth c H locs 265 37830 (lw_Z below #[Value.ref b] s) (F0 m 935 ls []) := by
  obtain ⟨hx, hb, hr, hml, hown, -, hX, hbl, hlocks, hgv⟩ := C0
  obtain ⟨hl0, hl1, hl2, hs0, hs19, hs26, hn0, hm0, hm1, hm2, hm3⟩ := hf
  have hbA : ¬ A b := fun h => absurd (hAf b h) (Nat.not_le.mpr hbl)
  have hP := hP.sub (ws' := [((qa 0), .inr (9, [.ref (qa 1), .ref (qa 6), .ref (qa 9), .ref (qa 17), .ref (qa 18), .ref (qa 19), .ref (qa 20), .ref (qa 23), .ref (qa 25), .ref (qa 28), .ref (qa 29), .ref (qa 30), .ref (qa 31), .int 0, .int 0, .int 0])), ((qa 9), .inr (8, [.ref (qa 10), .ref (qa 11), .ref (qa 12), .ref (qa 13), .ref (qa 14), .ref (qa 15), .ref (qa 16), .int 0, .int (-1), .int 0, .int 0])), ((qa 20), .inr (4, [.ref (qa 21), .ref (qa 22), .ref (qa 30)])), ((qa 21), .inl (k 1, 6, .inl (fun _ => 0))), ((qa 22), .inl (k 1, 6, .inl (fun _ => 0))), ((qa 30), .inr (2, [.ref (qa 133), .ref (qa 134), .ref (qa 135), .ref (qa 136), .ref (qa 137), .ref (qa 138), .ref (qa 139), .int 0, .int 0, .int 0, .int 0, .int 0])), ((ma 0), .inr (10, [.int 0, .ref (ma 1), .int 0, .int 0, .ref (ma 4), .ref (ma 5), .ref (ma 6), .int 0, .int 0, .ref (ma 9), .ref (ma 10), .ref (ma 11), .ref (ma 12), .int 0, .ref (ma 14), .ref (ma 15), .int 0, .int 0, .ref (ma 18), .ref (ma 19), .ref (ma 20), .ref (ma 21), .ref (ma 22), .int 0, .ref (ma 24), .int 0, .ref (ma 26), .int 0, .int 0, .int 0, .int 0, .ref (ma 31), .ref (ma 32), .ref (ma 33), .ref (ma 34), .ref (ma 35), .int 0, .int 0, .ref (ma 38), .ref (ma 39), .ref (ma 40), .long 0])), ((ma 10), .inl (k 1, 220, .inl (mg 10)))]) [0, 9, 20, 21, 22, 30, 133, 137] rfl
  have hD := hD.sub (ws' := [((qa 0), .inr (9, [.ref (qa 1), .ref (qa 6), .ref (qa 9), .ref (qa 17), .ref (qa 18), .ref (qa 19), .ref (qa 20), .ref (qa 23), .ref (qa 25), .ref (qa 28), .ref (qa 29), .ref (qa 30), .ref (qa 31), .int 0, .int 0, .int 0])), ((qa 9), .inr (8, [.ref (qa 10), .ref (qa 11), .ref (qa 12), .ref (qa 13), .ref (qa 14), .ref (qa 15), .ref (qa 16), .int 0, .int (-1), .int 0, .int 0])), ((qa 20), .inr (4, [.ref (qa 21), .ref (qa 22), .ref (qa 30)])), ((qa 21), .inl (k 1, 6, .inl (fun _ => 0))), ((qa 22), .inl (k 1, 6, .inl (fun _ => 0))), ((qa 30), .inr (2, [.ref (qa 133), .ref (qa 134), .ref (qa 135), .ref (qa 136), .ref (qa 137), .ref (qa 138), .ref (qa 139), .int 0, .int 0, .int 0, .int 0, .int 0])), ((ma 0), .inr (10, [.int 0, .ref (ma 1), .int 0, .int 0, .ref (ma 4), .ref (ma 5), .ref (ma 6), .int 0, .int 0, .ref (ma 9), .ref (ma 10), .ref (ma 11), .ref (ma 12), .int 0, .ref (ma 14), .ref (ma 15), .int 0, .int 0, .ref (ma 18), .ref (ma 19), .ref (ma 20), .ref (ma 21), .ref (ma 22), .int 0, .ref (ma 24), .int 0, .ref (ma 26), .int 0, .int 0, .int 0, .int 0, .ref (ma 31), .ref (ma 32), .ref (ma 33), .ref (ma 34), .ref (ma 35), .int 0, .int 0, .ref (ma 38), .ref (ma 39), .ref (ma 40), .long 0])), ((ma 10), .inl (k 1, 220, .inl (mg 10)))]) [0, 9, 20, 21, 22, 30, 133, 137] (by decide) rfl
  refine lv_aload_n hx hb dL_law_935 rfl (lv_at hl 3 rfl) ?_
  refine lv_aload_n hx hb dL_law_936 rfl (lv_at hl 4 rfl) ?_
  refine lv_iload hx hb dL_law_937 (lv_at hl 0 rfl) ?_
  refine lv_iconst (v := 1) hx hb dL_law_939 (by decide) ?_
  refine lv_iadd hx hb dL_law_940 ?_
  refine p_topI (v := 1) (by decide) ?_
  refine va_sld hx hb hX hbl hbA hS (show ¬ (_ ∨ _) by decide) dL_law_941 ?_
  refine p_topI (v := (xs 1)) rfl ?_
  refine p_ji (wr := [((ma 0), .inr (10, [.int 0, .ref (ma 1), .int 0, .int 0, .ref (ma 4), .ref (ma 5), .ref (ma 6), .int 0, .int 0, .ref (ma 9), .ref (ma 10), .ref (ma 11), .ref (ma 12), .int 0, .ref (ma 14), .ref (ma 15), .int 0, .int 0, .ref (ma 18), .ref (ma 19), .ref (ma 20), .ref (ma 21), .ref (ma 22), .int 0, .ref (ma 24), .int 0, .ref (ma 26), .int 0, .int 0, .int 0, .int 0, .ref (ma 31), .ref (ma 32), .ref (ma 33), .ref (ma 34), .ref (ma 35), .int 0, .int 0, .ref (ma 38), .ref (ma 39), .ref (ma 40), .long 0])), ((ma 10), .inl (k 1, 220, .inl (mg 10)))]) (va_runV (As := [.int (xs 1)]) (rest := []) ⟨hx, hb, hml, hown, hts⟩ (c_cathedral l D k _ qa (xs 1)) (cwV 1 hts lg_69 rfl rfl rfl (by decide +kernel) ⟨Nat.le_of_ble_eq_true rfl, Nat.le_of_ble_eq_true rfl⟩) (pV hK hN hP hD [0, 1, 5, 2, 3, 4] rfl (by decide) rfl 0 rfl rfl) rfl rfl hl.1 rfl (lv_room (Nat.le_of_ble_eq_true rfl)) dL_law_942 ⟨by decide, by decide⟩) hP hD hS hA [0, 1, 5, 2, 3, 4] [6, 7] rfl rfl (by decide) (by decide) (fun rx3 ux1 H locs wx2 hP hD hS => ?_)
  have hx4 : rx3 = (-1) := wx2
  subst hx4
  have hP : va_P D vwCl [((ma 0), .inr (10, [.int 0, .ref (ma 1), .int 0, .int 0, .ref (ma 4), .ref (ma 5), .ref (ma 6), .int 0, .int 0, .ref (ma 9), .ref (ma 10), .ref (ma 11), .ref (ma 12), .int 0, .ref (ma 14), .ref (ma 15), .int 0, .int 0, .ref (ma 18), .ref (ma 19), .ref (ma 20), .ref (ma 21), .ref (ma 22), .int 0, .ref (ma 24), .int 0, .ref (ma 26), .int 0, .int 0, .int 0, .int 0, .ref (ma 31), .ref (ma 32), .ref (ma 33), .ref (ma 34), .ref (ma 35), .int 0, .int 0, .ref (ma 38), .ref (ma 39), .ref (ma 40), .long 0])), ((ma 10), .inl (k 1, 220, .inl (mg 10)))] H := hP
  have hD : va_D A [((ma 0), .inr (10, [.int 0, .ref (ma 1), .int 0, .int 0, .ref (ma 4), .ref (ma 5), .ref (ma 6), .int 0, .int 0, .ref (ma 9), .ref (ma 10), .ref (ma 11), .ref (ma 12), .int 0, .ref (ma 14), .ref (ma 15), .int 0, .int 0, .ref (ma 18), .ref (ma 19), .ref (ma 20), .ref (ma 21), .ref (ma 22), .int 0, .ref (ma 24), .int 0, .ref (ma 26), .int 0, .int 0, .int 0, .int 0, .ref (ma 31), .ref (ma 32), .ref (ma 33), .ref (ma 34), .ref (ma 35), .int 0, .int 0, .ref (ma 38), .ref (ma 39), .ref (ma 40), .long 0])), ((ma 10), .inl (k 1, 220, .inl (mg 10)))] := hD
  refine lv_aload_n hx hb dL_law_945 rfl (lv_at hl 2 rfl) ?_
  refine lv_aload_n hx hb dL_law_946 rfl (lv_at hl 4 rfl) ?_
  refine lv_iload hx hb dL_law_947 (lv_at hl 0 rfl) ?_
  refine lv_iconst (v := 1) hx hb dL_law_949 (by decide) ?_
  refine lv_iadd hx hb dL_law_950 ?_
  refine p_topI (v := 1) (by decide) ?_
  refine va_sld hx hb hX hbl hbA hS (show ¬ (_ ∨ _) by decide) dL_law_951 ?_
  refine p_topI (v := (xs 1)) rfl ?_
  refine p_ji (wr := []) (va_runV (As := [.int (xs 1)]) (rest := [.int (-1)]) ⟨hx, hb, hml, hown, hts⟩ (c_m_cathedral l D k _ ma mg (xs 1) hl0) (cwV 1 hts lg_70 rfl rfl rfl (by decide +kernel) ⟨Nat.le_of_ble_eq_true rfl, Nat.le_of_ble_eq_true rfl⟩) (pV hK hN hP hD [0, 1] rfl (by decide) rfl 0 rfl rfl) rfl rfl hl.1 rfl (lv_room (Nat.le_of_ble_eq_true rfl)) dL_law_952 ⟨by decide, by decide⟩) hP hD hS hA [0, 1] [] rfl rfl (by decide) (by decide) (fun rx7 ux5 H locs wx6 hP hD hS => ?_)
  have hx8 : rx7 = (-1) := wx6
  subst hx8
  have hP : va_P D vwCl [] H := hP
  have hD : va_D A [] := hD
  refine lv_icmp_eq (tgt := 1487) hx hb dL_law_955 (by decide) (fun cx9 => ?_) (fun h9 => absurd (by decide) h9)
  refine lv_iinc (v := 7) (lv' := [(4, .int 7), (3, .ref out), (2, .ref (ma 0)), (1, .ref (qa 0)), (0, .ref b)]) hx hb dL_law_1487 hl (k := 0) rfl (by decide) (by decide) rfl (fun ls hl => ?_)
  refine lv_goto (tgt := 23) hx hb dL_law_1490 (by decide) ?_
  refine lv_iload hx hb dL_law_23 (lv_at hl 0 rfl) ?_
  refine lv_aload_n hx hb dL_law_25 rfl (lv_at hl 4 rfl) ?_
  refine va_slen hx hb hX hbl hbA hS dL_law_26 ?_
  refine p_topI (v := 7) (by decide) ?_
  refine lv_bipush (v := 7) hx hb dL_law_27 (by decide) ?_
  refine lv_isub hx hb dL_law_29 ?_
  refine p_topI (v := 0) (by decide) ?_
  refine lv_icmp_gt (tgt := 1493) hx hb dL_law_30 (by decide) (fun cx10 => ?_) (fun h9 => absurd (by decide) h9)
  refine lv_iconst (v := 1) hx hb dL_law_1493 (by decide) ?_
  refine va_forget (fun q hq => hAf _ (hS.2.2 q hq)) ?_
  refine W.widen (k := 600002) (n := 7302232) (by decide) (by decide) ?_
  exact lw_ret hx hb hr hlocks dL_law_1494
set_option maxHeartbeats 4000000 in
set_option maxRecDepth 100000 in
theorem lc_eddies {p : Program} {e : Env} {s : State} {m : MethodId} {below : List Frame} {meth : Method} {c : Code} (l : Launch) {b : Nat} {xs : Nat → Int32} (C0 : lw_At p s m meth c b 7 xs) (hts : ∀ w ∈ p_tbl, w.before #[Value.ref b] s = true) {D : va_G} {k : Nat → ClassId} (hK : va_K D vwCl (pT k) s) (hN : pN s) {A : Nat → Prop} (hA : ∀ q : Nat, s.heap.size ≤ q → A q) (hAf : ∀ q : Nat, A q → s.heap.size ≤ q) (qa ma : Nat → Nat) (gs mg : Nat → Nat → Int32) (out : Nat) (hf : p_mf mg) {H : Heap} {locs : List Loc} {ls : Array Slot} (hP : va_P D vwCl (p_big k qa ma gs mg) H) (hD : va_D A (p_big k qa ma gs mg)) (hS : va_S A s.heap H locs) (hl : lv_has ls 7 [(4, .int 0), (3, .ref out), (2, .ref (ma 0)), (1, .ref (qa 0)), (0, .ref b)]) : W p l e room_1 s m #[Value.ref b] below meth c H locs 265 37830 (lw_Z below #[Value.ref b] s) (F0 m 960 ls []) := by
  obtain ⟨hx, hb, hr, hml, hown, -, hX, hbl, hlocks, hgv⟩ := C0
  obtain ⟨hl0, hl1, hl2, hs0, hs19, hs26, hn0, hm0, hm1, hm2, hm3⟩ := hf
  have hbA : ¬ A b := fun h => absurd (hAf b h) (Nat.not_le.mpr hbl)
  have hP := hP.sub (ws' := [((qa 0), .inr (9, [.ref (qa 1), .ref (qa 6), .ref (qa 9), .ref (qa 17), .ref (qa 18), .ref (qa 19), .ref (qa 20), .ref (qa 23), .ref (qa 25), .ref (qa 28), .ref (qa 29), .ref (qa 30), .ref (qa 31), .int 0, .int 0, .int 0])), ((qa 30), .inr (2, [.ref (qa 133), .ref (qa 134), .ref (qa 135), .ref (qa 136), .ref (qa 137), .ref (qa 138), .ref (qa 139), .int 0, .int 0, .int 0, .int 0, .int 0])), ((ma 0), .inr (10, [.int 0, .ref (ma 1), .int 0, .int 0, .ref (ma 4), .ref (ma 5), .ref (ma 6), .int 0, .int 0, .ref (ma 9), .ref (ma 10), .ref (ma 11), .ref (ma 12), .int 0, .ref (ma 14), .ref (ma 15), .int 0, .int 0, .ref (ma 18), .ref (ma 19), .ref (ma 20), .ref (ma 21), .ref (ma 22), .int 0, .ref (ma 24), .int 0, .ref (ma 26), .int 0, .int 0, .int 0, .int 0, .ref (ma 31), .ref (ma 32), .ref (ma 33), .ref (ma 34), .ref (ma 35), .int 0, .int 0, .ref (ma 38), .ref (ma 39), .ref (ma 40), .long 0])), ((ma 10), .inl (k 1, 220, .inl (mg 10)))]) [0, 30, 133, 137] rfl
  have hD := hD.sub (ws' := [((qa 0), .inr (9, [.ref (qa 1), .ref (qa 6), .ref (qa 9), .ref (qa 17), .ref (qa 18), .ref (qa 19), .ref (qa 20), .ref (qa 23), .ref (qa 25), .ref (qa 28), .ref (qa 29), .ref (qa 30), .ref (qa 31), .int 0, .int 0, .int 0])), ((qa 30), .inr (2, [.ref (qa 133), .ref (qa 134), .ref (qa 135), .ref (qa 136), .ref (qa 137), .ref (qa 138), .ref (qa 139), .int 0, .int 0, .int 0, .int 0, .int 0])), ((ma 0), .inr (10, [.int 0, .ref (ma 1), .int 0, .int 0, .ref (ma 4), .ref (ma 5), .ref (ma 6), .int 0, .int 0, .ref (ma 9), .ref (ma 10), .ref (ma 11), .ref (ma 12), .int 0, .ref (ma 14), .ref (ma 15), .int 0, .int 0, .ref (ma 18), .ref (ma 19), .ref (ma 20), .ref (ma 21), .ref (ma 22), .int 0, .ref (ma 24), .int 0, .ref (ma 26), .int 0, .int 0, .int 0, .int 0, .ref (ma 31), .ref (ma 32), .ref (ma 33), .ref (ma 34), .ref (ma 35), .int 0, .int 0, .ref (ma 38), .ref (ma 39), .ref (ma 40), .long 0])), ((ma 10), .inl (k 1, 220, .inl (mg 10)))]) [0, 30, 133, 137] (by decide) rfl
  refine lv_aload_n hx hb dL_law_960 rfl (lv_at hl 3 rfl) ?_
  refine p_ji (wr := [((ma 0), .inr (10, [.int 0, .ref (ma 1), .int 0, .int 0, .ref (ma 4), .ref (ma 5), .ref (ma 6), .int 0, .int 0, .ref (ma 9), .ref (ma 10), .ref (ma 11), .ref (ma 12), .int 0, .ref (ma 14), .ref (ma 15), .int 0, .int 0, .ref (ma 18), .ref (ma 19), .ref (ma 20), .ref (ma 21), .ref (ma 22), .int 0, .ref (ma 24), .int 0, .ref (ma 26), .int 0, .int 0, .int 0, .int 0, .ref (ma 31), .ref (ma 32), .ref (ma 33), .ref (ma 34), .ref (ma 35), .int 0, .int 0, .ref (ma 38), .ref (ma 39), .ref (ma 40), .long 0])), ((ma 10), .inl (k 1, 220, .inl (mg 10)))]) (va_runV (As := []) (rest := []) ⟨hx, hb, hml, hown, hts⟩ (c_eddies l D k _ qa) (cwV 0 hts lg_71 rfl rfl rfl (by decide +kernel) ⟨Nat.le_of_ble_eq_true rfl, Nat.le_of_ble_eq_true rfl⟩) (pV hK hN hP hD [0, 1] rfl (by decide) rfl 0 rfl rfl) rfl rfl hl.1 rfl (lv_room (Nat.le_of_ble_eq_true rfl)) dL_law_961 ⟨by decide, by decide⟩) hP hD hS hA [0, 1] [2, 3] rfl rfl (by decide) (by decide) (fun rx3 ux1 H locs wx2 hP hD hS => ?_)
  have hx4 : rx3 = 0 := wx2
  subst hx4
  have hP : va_P D vwCl [((ma 0), .inr (10, [.int 0, .ref (ma 1), .int 0, .int 0, .ref (ma 4), .ref (ma 5), .ref (ma 6), .int 0, .int 0, .ref (ma 9), .ref (ma 10), .ref (ma 11), .ref (ma 12), .int 0, .ref (ma 14), .ref (ma 15), .int 0, .int 0, .ref (ma 18), .ref (ma 19), .ref (ma 20), .ref (ma 21), .ref (ma 22), .int 0, .ref (ma 24), .int 0, .ref (ma 26), .int 0, .int 0, .int 0, .int 0, .ref (ma 31), .ref (ma 32), .ref (ma 33), .ref (ma 34), .ref (ma 35), .int 0, .int 0, .ref (ma 38), .ref (ma 39), .ref (ma 40), .long 0])), ((ma 10), .inl (k 1, 220, .inl (mg 10)))] H := hP
  have hD : va_D A [((ma 0), .inr (10, [.int 0, .ref (ma 1), .int 0, .int 0, .ref (ma 4), .ref (ma 5), .ref (ma 6), .int 0, .int 0, .ref (ma 9), .ref (ma 10), .ref (ma 11), .ref (ma 12), .int 0, .ref (ma 14), .ref (ma 15), .int 0, .int 0, .ref (ma 18), .ref (ma 19), .ref (ma 20), .ref (ma 21), .ref (ma 22), .int 0, .ref (ma 24), .int 0, .ref (ma 26), .int 0, .int 0, .int 0, .int 0, .ref (ma 31), .ref (ma 32), .ref (ma 33), .ref (ma 34), .ref (ma 35), .int 0, .int 0, .ref (ma 38), .ref (ma 39), .ref (ma 40), .long 0])), ((ma 10), .inl (k 1, 220, .inl (mg 10)))] := hD
  refine lv_aload_n hx hb dL_law_964 rfl (lv_at hl 2 rfl) ?_
  refine p_ji (wr := []) (va_runV (As := []) (rest := [.int 0]) ⟨hx, hb, hml, hown, hts⟩ (c_m_eddies l D k _ ma mg hl0) (cwV 0 hts lg_72 rfl rfl rfl (by decide +kernel) ⟨Nat.le_of_ble_eq_true rfl, Nat.le_of_ble_eq_true rfl⟩) (pV hK hN hP hD [0, 1] rfl (by decide) rfl 0 rfl rfl) rfl rfl hl.1 rfl (lv_room (Nat.le_of_ble_eq_true rfl)) dL_law_965 ⟨by decide, by decide⟩) hP hD hS hA [0, 1] [] rfl rfl (by decide) (by decide) (fun rx7 ux5 H locs wx6 hP hD hS => ?_)
  have hx8 : rx7 = 0 := wx6
  subst hx8
  have hP : va_P D vwCl [] H := hP
  have hD : va_D A [] := hD
  refine lv_icmp_eq (tgt := 1487) hx hb dL_law_968 (by decide) (fun cx9 => ?_) (fun h9 => absurd (by decide) h9)
  refine lv_iinc (v := 7) (lv' := [(4, .int 7), (3, .ref out), (2, .ref (ma 0)), (1, .ref (qa 0)), (0, .ref b)]) hx hb dL_law_1487 hl (k := 0) rfl (by decide) (by decide) rfl (fun ls hl => ?_)
  refine lv_goto (tgt := 23) hx hb dL_law_1490 (by decide) ?_
  refine lv_iload hx hb dL_law_23 (lv_at hl 0 rfl) ?_
  refine lv_aload_n hx hb dL_law_25 rfl (lv_at hl 4 rfl) ?_
  refine va_slen hx hb hX hbl hbA hS dL_law_26 ?_
  refine p_topI (v := 7) (by decide) ?_
  refine lv_bipush (v := 7) hx hb dL_law_27 (by decide) ?_
  refine lv_isub hx hb dL_law_29 ?_
  refine p_topI (v := 0) (by decide) ?_
  refine lv_icmp_gt (tgt := 1493) hx hb dL_law_30 (by decide) (fun cx10 => ?_) (fun h9 => absurd (by decide) h9)
  refine lv_iconst (v := 1) hx hb dL_law_1493 (by decide) ?_
  refine va_forget (fun q hq => hAf _ (hS.2.2 q hq)) ?_
  refine W.widen (k := 600002) (n := 7302232) (by decide) (by decide) ?_
  exact lw_ret hx hb hr hlocks dL_law_1494
set_option maxHeartbeats 4000000 in
set_option maxRecDepth 100000 in
theorem lc_worst {p : Program} {e : Env} {s : State} {m : MethodId} {below : List Frame} {meth : Method} {c : Code} (l : Launch) {b : Nat} {xs : Nat → Int32} (C0 : lw_At p s m meth c b 7 xs) (hts : ∀ w ∈ p_tbl, w.before #[Value.ref b] s = true) {D : va_G} {k : Nat → ClassId} (hK : va_K D vwCl (pT k) s) (hN : pN s) {A : Nat → Prop} (hA : ∀ q : Nat, s.heap.size ≤ q → A q) (hAf : ∀ q : Nat, A q → s.heap.size ≤ q) (qa ma : Nat → Nat) (gs mg : Nat → Nat → Int32) (out : Nat) (hf : p_mf mg) (hst : l.stackTraces = false) (sa : Nat) (hXX : pX 351 "no such town, or nothing such of it" sa A s) {H : Heap} {locs : List Loc} {ls : Array Slot} (hP : va_P D vwCl (p_big k qa ma gs mg) H) (hD : va_D A (p_big k qa ma gs mg)) (hS : va_S A s.heap H locs) (hl : lv_has ls 7 [(4, .int 0), (3, .ref out), (2, .ref (ma 0)), (1, .ref (qa 0)), (0, .ref b)]) : W p l e room_1 s m #[Value.ref b] below meth c H locs 265 37830 (lw_Z below #[Value.ref b] s) (F0 m 973 ls []) := by
  obtain ⟨hx, hb, hr, hml, hown, -, hX, hbl, hlocks, hgv⟩ := C0
  obtain ⟨hl0, hl1, hl2, hs0, hs19, hs26, hn0, hm0, hm1, hm2, hm3⟩ := hf
  have hbA : ¬ A b := fun h => absurd (hAf b h) (Nat.not_le.mpr hbl)
  have hP := hP.sub (ws' := [((qa 0), .inr (9, [.ref (qa 1), .ref (qa 6), .ref (qa 9), .ref (qa 17), .ref (qa 18), .ref (qa 19), .ref (qa 20), .ref (qa 23), .ref (qa 25), .ref (qa 28), .ref (qa 29), .ref (qa 30), .ref (qa 31), .int 0, .int 0, .int 0])), ((qa 30), .inr (2, [.ref (qa 133), .ref (qa 134), .ref (qa 135), .ref (qa 136), .ref (qa 137), .ref (qa 138), .ref (qa 139), .int 0, .int 0, .int 0, .int 0, .int 0])), ((ma 0), .inr (10, [.int 0, .ref (ma 1), .int 0, .int 0, .ref (ma 4), .ref (ma 5), .ref (ma 6), .int 0, .int 0, .ref (ma 9), .ref (ma 10), .ref (ma 11), .ref (ma 12), .int 0, .ref (ma 14), .ref (ma 15), .int 0, .int 0, .ref (ma 18), .ref (ma 19), .ref (ma 20), .ref (ma 21), .ref (ma 22), .int 0, .ref (ma 24), .int 0, .ref (ma 26), .int 0, .int 0, .int 0, .int 0, .ref (ma 31), .ref (ma 32), .ref (ma 33), .ref (ma 34), .ref (ma 35), .int 0, .int 0, .ref (ma 38), .ref (ma 39), .ref (ma 40), .long 0])), ((ma 10), .inl (k 1, 220, .inl (mg 10)))]) [0, 30, 133, 137] rfl
  have hD := hD.sub (ws' := [((qa 0), .inr (9, [.ref (qa 1), .ref (qa 6), .ref (qa 9), .ref (qa 17), .ref (qa 18), .ref (qa 19), .ref (qa 20), .ref (qa 23), .ref (qa 25), .ref (qa 28), .ref (qa 29), .ref (qa 30), .ref (qa 31), .int 0, .int 0, .int 0])), ((qa 30), .inr (2, [.ref (qa 133), .ref (qa 134), .ref (qa 135), .ref (qa 136), .ref (qa 137), .ref (qa 138), .ref (qa 139), .int 0, .int 0, .int 0, .int 0, .int 0])), ((ma 0), .inr (10, [.int 0, .ref (ma 1), .int 0, .int 0, .ref (ma 4), .ref (ma 5), .ref (ma 6), .int 0, .int 0, .ref (ma 9), .ref (ma 10), .ref (ma 11), .ref (ma 12), .int 0, .ref (ma 14), .ref (ma 15), .int 0, .int 0, .ref (ma 18), .ref (ma 19), .ref (ma 20), .ref (ma 21), .ref (ma 22), .int 0, .ref (ma 24), .int 0, .ref (ma 26), .int 0, .int 0, .int 0, .int 0, .ref (ma 31), .ref (ma 32), .ref (ma 33), .ref (ma 34), .ref (ma 35), .int 0, .int 0, .ref (ma 38), .ref (ma 39), .ref (ma 40), .long 0])), ((ma 10), .inl (k 1, 220, .inl (mg 10)))]) [0, 30, 133, 137] (by decide) rfl
  refine lv_aload_n hx hb dL_law_973 rfl (lv_at hl 3 rfl) ?_
  refine lv_aload_n hx hb dL_law_974 rfl (lv_at hl 4 rfl) ?_
  refine lv_iload hx hb dL_law_975 (lv_at hl 0 rfl) ?_
  refine lv_iconst (v := 1) hx hb dL_law_977 (by decide) ?_
  refine lv_iadd hx hb dL_law_978 ?_
  refine p_topI (v := 1) (by decide) ?_
  refine va_sld hx hb hX hbl hbA hS (show ¬ (_ ∨ _) by decide) dL_law_979 ?_
  refine p_topI (v := (xs 1)) rfl ?_
  refine lv_aload_n hx hb dL_law_980 rfl (lv_at hl 4 rfl) ?_
  refine lv_iload hx hb dL_law_981 (lv_at hl 0 rfl) ?_
  refine lv_iconst (v := 2) hx hb dL_law_983 (by decide) ?_
  refine lv_iadd hx hb dL_law_984 ?_
  refine p_topI (v := 2) (by decide) ?_
  refine va_sld hx hb hX hbl hbA hS (show ¬ (_ ∨ _) by decide) dL_law_985 ?_
  refine p_topI (v := (xs 2)) rfl ?_
  refine lv_aload_n hx hb dL_law_986 rfl (lv_at hl 1 rfl) ?_
  have hFc := va_free (wc := [((qa 0), .inr (9, [.ref (qa 1), .ref (qa 6), .ref (qa 9), .ref (qa 17), .ref (qa 18), .ref (qa 19), .ref (qa 20), .ref (qa 23), .ref (qa 25), .ref (qa 28), .ref (qa 29), .ref (qa 30), .ref (qa 31), .int 0, .int 0, .int 0])), ((qa 30), .inr (2, [.ref (qa 133), .ref (qa 134), .ref (qa 135), .ref (qa 136), .ref (qa 137), .ref (qa 138), .ref (qa 139), .int 0, .int 0, .int 0, .int 0, .int 0]))]) hD hS hA [0, 1] rfl
  refine p_ji (wr := [((ma 0), .inr (10, [.int 0, .ref (ma 1), .int 0, .int 0, .ref (ma 4), .ref (ma 5), .ref (ma 6), .int 0, .int 0, .ref (ma 9), .ref (ma 10), .ref (ma 11), .ref (ma 12), .int 0, .ref (ma 14), .ref (ma 15), .int 0, .int 0, .ref (ma 18), .ref (ma 19), .ref (ma 20), .ref (ma 21), .ref (ma 22), .int 0, .ref (ma 24), .int 0, .ref (ma 26), .int 0, .int 0, .int 0, .int 0, .ref (ma 31), .ref (ma 32), .ref (ma 33), .ref (ma 34), .ref (ma 35), .int 0, .int 0, .ref (ma 38), .ref (ma 39), .ref (ma 40), .long 0])), ((ma 10), .inl (k 1, 220, .inl (mg 10)))]) (vx_runSW (As := [.ref (qa 0), .int (xs 1), .int (xs 2), .ref out]) (rest := []) ⟨hx, hb, hml, hown, hts⟩ (cL_worst_ok l hst D k _ sa qa (xs 1) (xs 2) out) (vx_cwSW 4 hts lgL_worst rfl rfl rfl (by decide +kernel) ⟨Nat.le_of_ble_eq_true rfl, Nat.le_of_ble_eq_true rfl⟩) ⟨fun a U g mk q => by obtain ⟨q0, ⟨q1, qP, qK, qN, qD⟩, qX⟩ := q; exact ⟨q0, ⟨q1, qP, va_K.moved (u := U) (U := U.calling g mk a) (Vm.Alike.refl U.vm) qK, pN.same (s := U) (U := U.calling g mk a) rfl qN, qD⟩, qX.blind⟩, fun U hU hW => ⟨rfl, ⟨by rw [hU], by rw [hU]; exact hP.sub [0, 1] rfl, va_K.moved hW.alike hK, hN.warm hW, (hD.sub [0, 1] (by decide) rfl).weaken (fun _ _ _ _ => trivial)⟩, hXX.to hS hU hW hFc⟩⟩ rfl rfl hl.1 rfl (lv_room (Nat.le_of_ble_eq_true rfl)) dL_law_987 ⟨by decide, by decide⟩) hP hD hS hA [0, 1] [2, 3] rfl rfl (by decide) (by decide) (fun r u H locs hw hP hD hS => ?_)
  have hw : r = 1 := hw
  subst hw
  have hP : va_P D vwCl [((ma 0), .inr (10, [.int 0, .ref (ma 1), .int 0, .int 0, .ref (ma 4), .ref (ma 5), .ref (ma 6), .int 0, .int 0, .ref (ma 9), .ref (ma 10), .ref (ma 11), .ref (ma 12), .int 0, .ref (ma 14), .ref (ma 15), .int 0, .int 0, .ref (ma 18), .ref (ma 19), .ref (ma 20), .ref (ma 21), .ref (ma 22), .int 0, .ref (ma 24), .int 0, .ref (ma 26), .int 0, .int 0, .int 0, .int 0, .ref (ma 31), .ref (ma 32), .ref (ma 33), .ref (ma 34), .ref (ma 35), .int 0, .int 0, .ref (ma 38), .ref (ma 39), .ref (ma 40), .long 0])), ((ma 10), .inl (k 1, 220, .inl (mg 10)))] H := hP
  have hD : va_D A [((ma 0), .inr (10, [.int 0, .ref (ma 1), .int 0, .int 0, .ref (ma 4), .ref (ma 5), .ref (ma 6), .int 0, .int 0, .ref (ma 9), .ref (ma 10), .ref (ma 11), .ref (ma 12), .int 0, .ref (ma 14), .ref (ma 15), .int 0, .int 0, .ref (ma 18), .ref (ma 19), .ref (ma 20), .ref (ma 21), .ref (ma 22), .int 0, .ref (ma 24), .int 0, .ref (ma 26), .int 0, .int 0, .int 0, .int 0, .ref (ma 31), .ref (ma 32), .ref (ma 33), .ref (ma 34), .ref (ma 35), .int 0, .int 0, .ref (ma 38), .ref (ma 39), .ref (ma 40), .long 0])), ((ma 10), .inl (k 1, 220, .inl (mg 10)))] := hD
  refine W.widen (k := 266) (n := 37836) (by decide) (by decide) ?_
  refine lv_istore (lv' := [(5, .int 1), (4, .int 0), (3, .ref out), (2, .ref (ma 0)), (1, .ref (qa 0)), (0, .ref b)]) hx hb dL_law_990 hl (by decide) rfl (fun ls hl => ?_)
  refine lv_aload_n hx hb dL_law_992 rfl (lv_at hl 3 rfl) ?_
  refine lv_aload_n hx hb dL_law_993 rfl (lv_at hl 5 rfl) ?_
  refine lv_iload hx hb dL_law_994 (lv_at hl 1 rfl) ?_
  refine lv_iconst (v := 1) hx hb dL_law_996 (by decide) ?_
  refine lv_iadd hx hb dL_law_997 ?_
  refine p_topI (v := 1) (by decide) ?_
  refine va_sld hx hb hX hbl hbA hS (show ¬ (_ ∨ _) by decide) dL_law_998 ?_
  refine p_topI (v := (xs 1)) rfl ?_
  refine lv_aload_n hx hb dL_law_999 rfl (lv_at hl 5 rfl) ?_
  refine lv_iload hx hb dL_law_1000 (lv_at hl 1 rfl) ?_
  refine lv_iconst (v := 2) hx hb dL_law_1002 (by decide) ?_
  refine lv_iadd hx hb dL_law_1003 ?_
  refine p_topI (v := 2) (by decide) ?_
  refine va_sld hx hb hX hbl hbA hS (show ¬ (_ ∨ _) by decide) dL_law_1004 ?_
  refine p_topI (v := (xs 2)) rfl ?_
  refine p_ji (wr := []) (va_runV (As := [.int (xs 1), .int (xs 2)]) (rest := []) ⟨hx, hb, hml, hown, hts⟩ (c_m_worst l D k _ ma mg (xs 1) (xs 2) hl0) (cwV 2 hts lg_73 rfl rfl rfl (by decide +kernel) ⟨Nat.le_of_ble_eq_true rfl, Nat.le_of_ble_eq_true rfl⟩) (pV hK hN hP hD [0, 1] rfl (by decide) rfl 0 rfl rfl) rfl rfl hl.1 rfl (lv_room (Nat.le_of_ble_eq_true rfl)) dL_law_1005 ⟨by decide, by decide⟩) hP hD hS hA [0, 1] [] rfl rfl (by decide) (by decide) (fun rx3 ux1 H locs wx2 hP hD hS => ?_)
  have hx4 : rx3 = 0 := wx2
  subst hx4
  have hP : va_P D vwCl [((ma 0), .inr (10, [.int 1, .ref (ma 1), .int 0, .int 0, .ref (ma 4), .ref (ma 5), .ref (ma 6), .int 0, .int 0, .ref (ma 9), .ref (ma 10), .ref (ma 11), .ref (ma 12), .int 0, .ref (ma 14), .ref (ma 15), .int 0, .int 0, .ref (ma 18), .ref (ma 19), .ref (ma 20), .ref (ma 21), .ref (ma 22), .int 0, .ref (ma 24), .int 0, .ref (ma 26), .int 0, .int 0, .int 0, .int 0, .ref (ma 31), .ref (ma 32), .ref (ma 33), .ref (ma 34), .ref (ma 35), .int 0, .int 0, .ref (ma 38), .ref (ma 39), .ref (ma 40), .long 0]))] H := hP
  have hD : va_D A [((ma 0), .inr (10, [.int 1, .ref (ma 1), .int 0, .int 0, .ref (ma 4), .ref (ma 5), .ref (ma 6), .int 0, .int 0, .ref (ma 9), .ref (ma 10), .ref (ma 11), .ref (ma 12), .int 0, .ref (ma 14), .ref (ma 15), .int 0, .int 0, .ref (ma 18), .ref (ma 19), .ref (ma 20), .ref (ma 21), .ref (ma 22), .int 0, .ref (ma 24), .int 0, .ref (ma 26), .int 0, .int 0, .int 0, .int 0, .ref (ma 31), .ref (ma 32), .ref (ma 33), .ref (ma 34), .ref (ma 35), .int 0, .int 0, .ref (ma 38), .ref (ma 39), .ref (ma 40), .long 0]))] := hD
  refine lv_istore (lv' := [(6, .int 0), (5, .int 1), (4, .int 0), (3, .ref out), (2, .ref (ma 0)), (1, .ref (qa 0)), (0, .ref b)]) hx hb dL_law_1008 hl (by decide) rfl (fun ls hl => ?_)
  refine lv_aload_n hx hb dL_law_1010 rfl (lv_at hl 4 rfl) ?_
  refine p_ji (wr := []) (va_runV (As := []) (rest := []) ⟨hx, hb, hml, hown, hts⟩ (c_m_thrown l D k _ ma 1 0 0 0 0 0 0 0 0 0 0 0 0 0 0 0 0) (cwV 0 hts lg_9 rfl rfl rfl (by decide +kernel) ⟨Nat.le_of_ble_eq_true rfl, Nat.le_of_ble_eq_true rfl⟩) (pV hK hN hP hD [0] rfl (by decide) rfl 0 rfl rfl) rfl rfl hl.1 rfl (lv_room (Nat.le_of_ble_eq_true rfl)) dL_law_1011 ⟨by decide, by decide⟩) hP hD hS hA [0] [] rfl rfl (by decide) (by decide) (fun rx7 ux5 H locs wx6 hP hD hS => ?_)
  have hx8 : rx7 = 1 := wx6
  subst hx8
  have hP : va_P D vwCl [((ma 0), .inr (10, [.int 1, .ref (ma 1), .int 0, .int 0, .ref (ma 4), .ref (ma 5), .ref (ma 6), .int 0, .int 0, .ref (ma 9), .ref (ma 10), .ref (ma 11), .ref (ma 12), .int 0, .ref (ma 14), .ref (ma 15), .int 0, .int 0, .ref (ma 18), .ref (ma 19), .ref (ma 20), .ref (ma 21), .ref (ma 22), .int 0, .ref (ma 24), .int 0, .ref (ma 26), .int 0, .int 0, .int 0, .int 0, .ref (ma 31), .ref (ma 32), .ref (ma 33), .ref (ma 34), .ref (ma 35), .int 0, .int 0, .ref (ma 38), .ref (ma 39), .ref (ma 40), .long 0]))] H := hP
  have hD : va_D A [((ma 0), .inr (10, [.int 1, .ref (ma 1), .int 0, .int 0, .ref (ma 4), .ref (ma 5), .ref (ma 6), .int 0, .int 0, .ref (ma 9), .ref (ma 10), .ref (ma 11), .ref (ma 12), .int 0, .ref (ma 14), .ref (ma 15), .int 0, .int 0, .ref (ma 18), .ref (ma 19), .ref (ma 20), .ref (ma 21), .ref (ma 22), .int 0, .ref (ma 24), .int 0, .ref (ma 26), .int 0, .int 0, .int 0, .int 0, .ref (ma 31), .ref (ma 32), .ref (ma 33), .ref (ma 34), .ref (ma 35), .int 0, .int 0, .ref (ma 38), .ref (ma 39), .ref (ma 40), .long 0]))] := hD
  refine lv_iload hx hb dL_law_1014 (lv_at hl 1 rfl) ?_
  refine lv_icmp_eq (tgt := 1021) hx hb dL_law_1016 (by decide) (fun cx9 => ?_) (fun h9 => absurd (by decide) h9)
  refine lv_iload hx hb dL_law_1021 (lv_at hl 1 rfl) ?_
  refine lv_if_ne (tgt := 1038) hx hb dL_law_1023 (by decide) (fun cx10 => ?_) (fun h9 => absurd h9 (by decide))
  refine lv_goto (tgt := 1487) hx hb dL_law_1038 (by decide) ?_
  refine lv_iinc (v := 7) (lv' := [(4, .int 7), (6, .int 0), (5, .int 1), (3, .ref out), (2, .ref (ma 0)), (1, .ref (qa 0)), (0, .ref b)]) hx hb dL_law_1487 hl (k := 2) rfl (by decide) (by decide) rfl (fun ls hl => ?_)
  refine lv_goto (tgt := 23) hx hb dL_law_1490 (by decide) ?_
  refine lv_iload hx hb dL_law_23 (lv_at hl 0 rfl) ?_
  refine lv_aload_n hx hb dL_law_25 rfl (lv_at hl 6 rfl) ?_
  refine va_slen hx hb hX hbl hbA hS dL_law_26 ?_
  refine p_topI (v := 7) (by decide) ?_
  refine lv_bipush (v := 7) hx hb dL_law_27 (by decide) ?_
  refine lv_isub hx hb dL_law_29 ?_
  refine p_topI (v := 0) (by decide) ?_
  refine lv_icmp_gt (tgt := 1493) hx hb dL_law_30 (by decide) (fun cx11 => ?_) (fun h9 => absurd (by decide) h9)
  refine lv_iconst (v := 1) hx hb dL_law_1493 (by decide) ?_
  refine va_forget (fun q hq => hAf _ (hS.2.2 q hq)) ?_
  refine W.widen (k := 600002) (n := 7302232) (by decide) (by decide) ?_
  exact lw_ret hx hb hr hlocks dL_law_1494
set_option maxHeartbeats 4000000 in
set_option maxRecDepth 100000 in
theorem lc_share {p : Program} {e : Env} {s : State} {m : MethodId} {below : List Frame} {meth : Method} {c : Code} (l : Launch) {b : Nat} {xs : Nat → Int32} (C0 : lw_At p s m meth c b 7 xs) (hts : ∀ w ∈ p_tbl, w.before #[Value.ref b] s = true) {D : va_G} {k : Nat → ClassId} (hK : va_K D vwCl (pT k) s) (hN : pN s) {A : Nat → Prop} (hA : ∀ q : Nat, s.heap.size ≤ q → A q) (hAf : ∀ q : Nat, A q → s.heap.size ≤ q) (qa ma : Nat → Nat) (gs mg : Nat → Nat → Int32) (out : Nat) (hf : p_mf mg) {H : Heap} {locs : List Loc} {ls : Array Slot} (hP : va_P D vwCl (p_big k qa ma gs mg) H) (hD : va_D A (p_big k qa ma gs mg)) (hS : va_S A s.heap H locs) (hl : lv_has ls 7 [(4, .int 0), (3, .ref out), (2, .ref (ma 0)), (1, .ref (qa 0)), (0, .ref b)]) : W p l e room_1 s m #[Value.ref b] below meth c H locs 265 37830 (lw_Z below #[Value.ref b] s) (F0 m 1041 ls []) := by
  obtain ⟨hx, hb, hr, hml, hown, -, hX, hbl, hlocks, hgv⟩ := C0
  obtain ⟨hl0, hl1, hl2, hs0, hs19, hs26, hn0, hm0, hm1, hm2, hm3⟩ := hf
  have hbA : ¬ A b := fun h => absurd (hAf b h) (Nat.not_le.mpr hbl)
  have hP := hP.sub (ws' := [((qa 0), .inr (9, [.ref (qa 1), .ref (qa 6), .ref (qa 9), .ref (qa 17), .ref (qa 18), .ref (qa 19), .ref (qa 20), .ref (qa 23), .ref (qa 25), .ref (qa 28), .ref (qa 29), .ref (qa 30), .ref (qa 31), .int 0, .int 0, .int 0])), ((qa 30), .inr (2, [.ref (qa 133), .ref (qa 134), .ref (qa 135), .ref (qa 136), .ref (qa 137), .ref (qa 138), .ref (qa 139), .int 0, .int 0, .int 0, .int 0, .int 0])), ((ma 0), .inr (10, [.int 0, .ref (ma 1), .int 0, .int 0, .ref (ma 4), .ref (ma 5), .ref (ma 6), .int 0, .int 0, .ref (ma 9), .ref (ma 10), .ref (ma 11), .ref (ma 12), .int 0, .ref (ma 14), .ref (ma 15), .int 0, .int 0, .ref (ma 18), .ref (ma 19), .ref (ma 20), .ref (ma 21), .ref (ma 22), .int 0, .ref (ma 24), .int 0, .ref (ma 26), .int 0, .int 0, .int 0, .int 0, .ref (ma 31), .ref (ma 32), .ref (ma 33), .ref (ma 34), .ref (ma 35), .int 0, .int 0, .ref (ma 38), .ref (ma 39), .ref (ma 40), .long 0])), ((ma 10), .inl (k 1, 220, .inl (mg 10)))]) [0, 30, 133, 137] rfl
  have hD := hD.sub (ws' := [((qa 0), .inr (9, [.ref (qa 1), .ref (qa 6), .ref (qa 9), .ref (qa 17), .ref (qa 18), .ref (qa 19), .ref (qa 20), .ref (qa 23), .ref (qa 25), .ref (qa 28), .ref (qa 29), .ref (qa 30), .ref (qa 31), .int 0, .int 0, .int 0])), ((qa 30), .inr (2, [.ref (qa 133), .ref (qa 134), .ref (qa 135), .ref (qa 136), .ref (qa 137), .ref (qa 138), .ref (qa 139), .int 0, .int 0, .int 0, .int 0, .int 0])), ((ma 0), .inr (10, [.int 0, .ref (ma 1), .int 0, .int 0, .ref (ma 4), .ref (ma 5), .ref (ma 6), .int 0, .int 0, .ref (ma 9), .ref (ma 10), .ref (ma 11), .ref (ma 12), .int 0, .ref (ma 14), .ref (ma 15), .int 0, .int 0, .ref (ma 18), .ref (ma 19), .ref (ma 20), .ref (ma 21), .ref (ma 22), .int 0, .ref (ma 24), .int 0, .ref (ma 26), .int 0, .int 0, .int 0, .int 0, .ref (ma 31), .ref (ma 32), .ref (ma 33), .ref (ma 34), .ref (ma 35), .int 0, .int 0, .ref (ma 38), .ref (ma 39), .ref (ma 40), .long 0])), ((ma 10), .inl (k 1, 220, .inl (mg 10)))]) [0, 30, 133, 137] (by decide) rfl
  refine lv_aload_n hx hb dL_law_1041 rfl (lv_at hl 3 rfl) ?_
  refine lv_aload_n hx hb dL_law_1042 rfl (lv_at hl 4 rfl) ?_
  refine lv_iload hx hb dL_law_1043 (lv_at hl 0 rfl) ?_
  refine lv_iconst (v := 1) hx hb dL_law_1045 (by decide) ?_
  refine lv_iadd hx hb dL_law_1046 ?_
  refine p_topI (v := 1) (by decide) ?_
  refine va_sld hx hb hX hbl hbA hS (show ¬ (_ ∨ _) by decide) dL_law_1047 ?_
  refine p_topI (v := (xs 1)) rfl ?_
  refine lv_aload_n hx hb dL_law_1048 rfl (lv_at hl 4 rfl) ?_
  refine lv_iload hx hb dL_law_1049 (lv_at hl 0 rfl) ?_
  refine lv_iconst (v := 2) hx hb dL_law_1051 (by decide) ?_
  refine lv_iadd hx hb dL_law_1052 ?_
  refine p_topI (v := 2) (by decide) ?_
  refine va_sld hx hb hX hbl hbA hS (show ¬ (_ ∨ _) by decide) dL_law_1053 ?_
  refine p_topI (v := (xs 2)) rfl ?_
  refine lv_aload_n hx hb dL_law_1054 rfl (lv_at hl 4 rfl) ?_
  refine lv_iload hx hb dL_law_1055 (lv_at hl 0 rfl) ?_
  refine lv_iconst (v := 3) hx hb dL_law_1057 (by decide) ?_
  refine lv_iadd hx hb dL_law_1058 ?_
  refine p_topI (v := 3) (by decide) ?_
  refine va_sld hx hb hX hbl hbA hS (show ¬ (_ ∨ _) by decide) dL_law_1059 ?_
  refine p_topI (v := (xs 3)) rfl ?_
  refine p_ji (wr := [((ma 0), .inr (10, [.int 0, .ref (ma 1), .int 0, .int 0, .ref (ma 4), .ref (ma 5), .ref (ma 6), .int 0, .int 0, .ref (ma 9), .ref (ma 10), .ref (ma 11), .ref (ma 12), .int 0, .ref (ma 14), .ref (ma 15), .int 0, .int 0, .ref (ma 18), .ref (ma 19), .ref (ma 20), .ref (ma 21), .ref (ma 22), .int 0, .ref (ma 24), .int 0, .ref (ma 26), .int 0, .int 0, .int 0, .int 0, .ref (ma 31), .ref (ma 32), .ref (ma 33), .ref (ma 34), .ref (ma 35), .int 0, .int 0, .ref (ma 38), .ref (ma 39), .ref (ma 40), .long 0])), ((ma 10), .inl (k 1, 220, .inl (mg 10)))]) (va_runV (As := [.int (xs 1), .int (xs 2), .int (xs 3)]) (rest := []) ⟨hx, hb, hml, hown, hts⟩ (c_share l D k _ qa (xs 1) (xs 2) (xs 3)) (cwV 3 hts lg_74 rfl rfl rfl (by decide +kernel) ⟨Nat.le_of_ble_eq_true rfl, Nat.le_of_ble_eq_true rfl⟩) (pV hK hN hP hD [0, 1] rfl (by decide) rfl 0 rfl rfl) rfl rfl hl.1 rfl (lv_room (Nat.le_of_ble_eq_true rfl)) dL_law_1060 ⟨by decide, by decide⟩) hP hD hS hA [0, 1] [2, 3] rfl rfl (by decide) (by decide) (fun rx3 ux1 H locs wx2 hP hD hS => ?_)
  have hx4 : rx3 = (-1) := wx2
  subst hx4
  have hP : va_P D vwCl [((ma 0), .inr (10, [.int 0, .ref (ma 1), .int 0, .int 0, .ref (ma 4), .ref (ma 5), .ref (ma 6), .int 0, .int 0, .ref (ma 9), .ref (ma 10), .ref (ma 11), .ref (ma 12), .int 0, .ref (ma 14), .ref (ma 15), .int 0, .int 0, .ref (ma 18), .ref (ma 19), .ref (ma 20), .ref (ma 21), .ref (ma 22), .int 0, .ref (ma 24), .int 0, .ref (ma 26), .int 0, .int 0, .int 0, .int 0, .ref (ma 31), .ref (ma 32), .ref (ma 33), .ref (ma 34), .ref (ma 35), .int 0, .int 0, .ref (ma 38), .ref (ma 39), .ref (ma 40), .long 0])), ((ma 10), .inl (k 1, 220, .inl (mg 10)))] H := hP
  have hD : va_D A [((ma 0), .inr (10, [.int 0, .ref (ma 1), .int 0, .int 0, .ref (ma 4), .ref (ma 5), .ref (ma 6), .int 0, .int 0, .ref (ma 9), .ref (ma 10), .ref (ma 11), .ref (ma 12), .int 0, .ref (ma 14), .ref (ma 15), .int 0, .int 0, .ref (ma 18), .ref (ma 19), .ref (ma 20), .ref (ma 21), .ref (ma 22), .int 0, .ref (ma 24), .int 0, .ref (ma 26), .int 0, .int 0, .int 0, .int 0, .ref (ma 31), .ref (ma 32), .ref (ma 33), .ref (ma 34), .ref (ma 35), .int 0, .int 0, .ref (ma 38), .ref (ma 39), .ref (ma 40), .long 0])), ((ma 10), .inl (k 1, 220, .inl (mg 10)))] := hD
  refine lv_aload_n hx hb dL_law_1063 rfl (lv_at hl 2 rfl) ?_
  refine lv_aload_n hx hb dL_law_1064 rfl (lv_at hl 4 rfl) ?_
  refine lv_iload hx hb dL_law_1065 (lv_at hl 0 rfl) ?_
  refine lv_iconst (v := 1) hx hb dL_law_1067 (by decide) ?_
  refine lv_iadd hx hb dL_law_1068 ?_
  refine p_topI (v := 1) (by decide) ?_
  refine va_sld hx hb hX hbl hbA hS (show ¬ (_ ∨ _) by decide) dL_law_1069 ?_
  refine p_topI (v := (xs 1)) rfl ?_
  refine lv_aload_n hx hb dL_law_1070 rfl (lv_at hl 4 rfl) ?_
  refine lv_iload hx hb dL_law_1071 (lv_at hl 0 rfl) ?_
  refine lv_iconst (v := 2) hx hb dL_law_1073 (by decide) ?_
  refine lv_iadd hx hb dL_law_1074 ?_
  refine p_topI (v := 2) (by decide) ?_
  refine va_sld hx hb hX hbl hbA hS (show ¬ (_ ∨ _) by decide) dL_law_1075 ?_
  refine p_topI (v := (xs 2)) rfl ?_
  refine lv_aload_n hx hb dL_law_1076 rfl (lv_at hl 4 rfl) ?_
  refine lv_iload hx hb dL_law_1077 (lv_at hl 0 rfl) ?_
  refine lv_iconst (v := 3) hx hb dL_law_1079 (by decide) ?_
  refine lv_iadd hx hb dL_law_1080 ?_
  refine p_topI (v := 3) (by decide) ?_
  refine va_sld hx hb hX hbl hbA hS (show ¬ (_ ∨ _) by decide) dL_law_1081 ?_
  refine p_topI (v := (xs 3)) rfl ?_
  refine p_ji (wr := []) (va_runV (As := [.int (xs 1), .int (xs 2), .int (xs 3)]) (rest := [.int (-1)]) ⟨hx, hb, hml, hown, hts⟩ (c_m_share l D k _ ma mg (xs 1) (xs 2) (xs 3) hl0) (cwV 3 hts lg_75 rfl rfl rfl (by decide +kernel) ⟨Nat.le_of_ble_eq_true rfl, Nat.le_of_ble_eq_true rfl⟩) (pV hK hN hP hD [0, 1] rfl (by decide) rfl 0 rfl rfl) rfl rfl hl.1 rfl (lv_room (Nat.le_of_ble_eq_true rfl)) dL_law_1082 ⟨by decide, by decide⟩) hP hD hS hA [0, 1] [] rfl rfl (by decide) (by decide) (fun rx7 ux5 H locs wx6 hP hD hS => ?_)
  have hx8 : rx7 = (-1) := wx6
  subst hx8
  have hP : va_P D vwCl [] H := hP
  have hD : va_D A [] := hD
  refine lv_icmp_eq (tgt := 1487) hx hb dL_law_1085 (by decide) (fun cx9 => ?_) (fun h9 => absurd (by decide) h9)
  refine lv_iinc (v := 7) (lv' := [(4, .int 7), (3, .ref out), (2, .ref (ma 0)), (1, .ref (qa 0)), (0, .ref b)]) hx hb dL_law_1487 hl (k := 0) rfl (by decide) (by decide) rfl (fun ls hl => ?_)
  refine lv_goto (tgt := 23) hx hb dL_law_1490 (by decide) ?_
  refine lv_iload hx hb dL_law_23 (lv_at hl 0 rfl) ?_
  refine lv_aload_n hx hb dL_law_25 rfl (lv_at hl 4 rfl) ?_
  refine va_slen hx hb hX hbl hbA hS dL_law_26 ?_
  refine p_topI (v := 7) (by decide) ?_
  refine lv_bipush (v := 7) hx hb dL_law_27 (by decide) ?_
  refine lv_isub hx hb dL_law_29 ?_
  refine p_topI (v := 0) (by decide) ?_
  refine lv_icmp_gt (tgt := 1493) hx hb dL_law_30 (by decide) (fun cx10 => ?_) (fun h9 => absurd (by decide) h9)
  refine lv_iconst (v := 1) hx hb dL_law_1493 (by decide) ?_
  refine va_forget (fun q hq => hAf _ (hS.2.2 q hq)) ?_
  refine W.widen (k := 600002) (n := 7302232) (by decide) (by decide) ?_
  exact lw_ret hx hb hr hlocks dL_law_1494
set_option maxHeartbeats 4000000 in
set_option maxRecDepth 100000 in
theorem lc_storms {p : Program} {e : Env} {s : State} {m : MethodId} {below : List Frame} {meth : Method} {c : Code} (l : Launch) {b : Nat} {xs : Nat → Int32} (C0 : lw_At p s m meth c b 7 xs) (hts : ∀ w ∈ p_tbl, w.before #[Value.ref b] s = true) {D : va_G} {k : Nat → ClassId} (hK : va_K D vwCl (pT k) s) (hN : pN s) {A : Nat → Prop} (hA : ∀ q : Nat, s.heap.size ≤ q → A q) (hAf : ∀ q : Nat, A q → s.heap.size ≤ q) (qa ma : Nat → Nat) (gs mg : Nat → Nat → Int32) (out : Nat) (hf : p_mf mg) {H : Heap} {locs : List Loc} {ls : Array Slot} (hP : va_P D vwCl (p_big k qa ma gs mg) H) (hD : va_D A (p_big k qa ma gs mg)) (hS : va_S A s.heap H locs) (hl : lv_has ls 7 [(4, .int 0), (3, .ref out), (2, .ref (ma 0)), (1, .ref (qa 0)), (0, .ref b)]) : W p l e room_1 s m #[Value.ref b] below meth c H locs 265 37830 (lw_Z below #[Value.ref b] s) (F0 m 1090 ls []) := by
  obtain ⟨hx, hb, hr, hml, hown, -, hX, hbl, hlocks, hgv⟩ := C0
  obtain ⟨hl0, hl1, hl2, hs0, hs19, hs26, hn0, hm0, hm1, hm2, hm3⟩ := hf
  have hbA : ¬ A b := fun h => absurd (hAf b h) (Nat.not_le.mpr hbl)
  have hP := hP.sub (ws' := [((qa 0), .inr (9, [.ref (qa 1), .ref (qa 6), .ref (qa 9), .ref (qa 17), .ref (qa 18), .ref (qa 19), .ref (qa 20), .ref (qa 23), .ref (qa 25), .ref (qa 28), .ref (qa 29), .ref (qa 30), .ref (qa 31), .int 0, .int 0, .int 0])), ((qa 30), .inr (2, [.ref (qa 133), .ref (qa 134), .ref (qa 135), .ref (qa 136), .ref (qa 137), .ref (qa 138), .ref (qa 139), .int 0, .int 0, .int 0, .int 0, .int 0])), ((ma 0), .inr (10, [.int 0, .ref (ma 1), .int 0, .int 0, .ref (ma 4), .ref (ma 5), .ref (ma 6), .int 0, .int 0, .ref (ma 9), .ref (ma 10), .ref (ma 11), .ref (ma 12), .int 0, .ref (ma 14), .ref (ma 15), .int 0, .int 0, .ref (ma 18), .ref (ma 19), .ref (ma 20), .ref (ma 21), .ref (ma 22), .int 0, .ref (ma 24), .int 0, .ref (ma 26), .int 0, .int 0, .int 0, .int 0, .ref (ma 31), .ref (ma 32), .ref (ma 33), .ref (ma 34), .ref (ma 35), .int 0, .int 0, .ref (ma 38), .ref (ma 39), .ref (ma 40), .long 0])), ((ma 10), .inl (k 1, 220, .inl (mg 10)))]) [0, 30, 133, 137] rfl
  have hD := hD.sub (ws' := [((qa 0), .inr (9, [.ref (qa 1), .ref (qa 6), .ref (qa 9), .ref (qa 17), .ref (qa 18), .ref (qa 19), .ref (qa 20), .ref (qa 23), .ref (qa 25), .ref (qa 28), .ref (qa 29), .ref (qa 30), .ref (qa 31), .int 0, .int 0, .int 0])), ((qa 30), .inr (2, [.ref (qa 133), .ref (qa 134), .ref (qa 135), .ref (qa 136), .ref (qa 137), .ref (qa 138), .ref (qa 139), .int 0, .int 0, .int 0, .int 0, .int 0])), ((ma 0), .inr (10, [.int 0, .ref (ma 1), .int 0, .int 0, .ref (ma 4), .ref (ma 5), .ref (ma 6), .int 0, .int 0, .ref (ma 9), .ref (ma 10), .ref (ma 11), .ref (ma 12), .int 0, .ref (ma 14), .ref (ma 15), .int 0, .int 0, .ref (ma 18), .ref (ma 19), .ref (ma 20), .ref (ma 21), .ref (ma 22), .int 0, .ref (ma 24), .int 0, .ref (ma 26), .int 0, .int 0, .int 0, .int 0, .ref (ma 31), .ref (ma 32), .ref (ma 33), .ref (ma 34), .ref (ma 35), .int 0, .int 0, .ref (ma 38), .ref (ma 39), .ref (ma 40), .long 0])), ((ma 10), .inl (k 1, 220, .inl (mg 10)))]) [0, 30, 133, 137] (by decide) rfl
  refine lv_aload_n hx hb dL_law_1090 rfl (lv_at hl 3 rfl) ?_
  refine lv_aload_n hx hb dL_law_1091 rfl (lv_at hl 4 rfl) ?_
  refine lv_iload hx hb dL_law_1092 (lv_at hl 0 rfl) ?_
  refine lv_iconst (v := 1) hx hb dL_law_1094 (by decide) ?_
  refine lv_iadd hx hb dL_law_1095 ?_
  refine p_topI (v := 1) (by decide) ?_
  refine va_sld hx hb hX hbl hbA hS (show ¬ (_ ∨ _) by decide) dL_law_1096 ?_
  refine p_topI (v := (xs 1)) rfl ?_
  refine lv_aload_n hx hb dL_law_1097 rfl (lv_at hl 4 rfl) ?_
  refine lv_iload hx hb dL_law_1098 (lv_at hl 0 rfl) ?_
  refine lv_iconst (v := 2) hx hb dL_law_1100 (by decide) ?_
  refine lv_iadd hx hb dL_law_1101 ?_
  refine p_topI (v := 2) (by decide) ?_
  refine va_sld hx hb hX hbl hbA hS (show ¬ (_ ∨ _) by decide) dL_law_1102 ?_
  refine p_topI (v := (xs 2)) rfl ?_
  refine p_ji (wr := [((ma 0), .inr (10, [.int 0, .ref (ma 1), .int 0, .int 0, .ref (ma 4), .ref (ma 5), .ref (ma 6), .int 0, .int 0, .ref (ma 9), .ref (ma 10), .ref (ma 11), .ref (ma 12), .int 0, .ref (ma 14), .ref (ma 15), .int 0, .int 0, .ref (ma 18), .ref (ma 19), .ref (ma 20), .ref (ma 21), .ref (ma 22), .int 0, .ref (ma 24), .int 0, .ref (ma 26), .int 0, .int 0, .int 0, .int 0, .ref (ma 31), .ref (ma 32), .ref (ma 33), .ref (ma 34), .ref (ma 35), .int 0, .int 0, .ref (ma 38), .ref (ma 39), .ref (ma 40), .long 0])), ((ma 10), .inl (k 1, 220, .inl (mg 10)))]) (va_runV (As := [.int (xs 1), .int (xs 2)]) (rest := []) ⟨hx, hb, hml, hown, hts⟩ (c_storms l D k _ qa (xs 1) (xs 2)) (cwV 2 hts lg_76 rfl rfl rfl (by decide +kernel) ⟨Nat.le_of_ble_eq_true rfl, Nat.le_of_ble_eq_true rfl⟩) (pV hK hN hP hD [0, 1] rfl (by decide) rfl 0 rfl rfl) rfl rfl hl.1 rfl (lv_room (Nat.le_of_ble_eq_true rfl)) dL_law_1103 ⟨by decide, by decide⟩) hP hD hS hA [0, 1] [2, 3] rfl rfl (by decide) (by decide) (fun rx3 ux1 H locs wx2 hP hD hS => ?_)
  have hx4 : rx3 = (-1) := wx2
  subst hx4
  have hP : va_P D vwCl [((ma 0), .inr (10, [.int 0, .ref (ma 1), .int 0, .int 0, .ref (ma 4), .ref (ma 5), .ref (ma 6), .int 0, .int 0, .ref (ma 9), .ref (ma 10), .ref (ma 11), .ref (ma 12), .int 0, .ref (ma 14), .ref (ma 15), .int 0, .int 0, .ref (ma 18), .ref (ma 19), .ref (ma 20), .ref (ma 21), .ref (ma 22), .int 0, .ref (ma 24), .int 0, .ref (ma 26), .int 0, .int 0, .int 0, .int 0, .ref (ma 31), .ref (ma 32), .ref (ma 33), .ref (ma 34), .ref (ma 35), .int 0, .int 0, .ref (ma 38), .ref (ma 39), .ref (ma 40), .long 0])), ((ma 10), .inl (k 1, 220, .inl (mg 10)))] H := hP
  have hD : va_D A [((ma 0), .inr (10, [.int 0, .ref (ma 1), .int 0, .int 0, .ref (ma 4), .ref (ma 5), .ref (ma 6), .int 0, .int 0, .ref (ma 9), .ref (ma 10), .ref (ma 11), .ref (ma 12), .int 0, .ref (ma 14), .ref (ma 15), .int 0, .int 0, .ref (ma 18), .ref (ma 19), .ref (ma 20), .ref (ma 21), .ref (ma 22), .int 0, .ref (ma 24), .int 0, .ref (ma 26), .int 0, .int 0, .int 0, .int 0, .ref (ma 31), .ref (ma 32), .ref (ma 33), .ref (ma 34), .ref (ma 35), .int 0, .int 0, .ref (ma 38), .ref (ma 39), .ref (ma 40), .long 0])), ((ma 10), .inl (k 1, 220, .inl (mg 10)))] := hD
  refine lv_aload_n hx hb dL_law_1106 rfl (lv_at hl 2 rfl) ?_
  refine lv_aload_n hx hb dL_law_1107 rfl (lv_at hl 4 rfl) ?_
  refine lv_iload hx hb dL_law_1108 (lv_at hl 0 rfl) ?_
  refine lv_iconst (v := 1) hx hb dL_law_1110 (by decide) ?_
  refine lv_iadd hx hb dL_law_1111 ?_
  refine p_topI (v := 1) (by decide) ?_
  refine va_sld hx hb hX hbl hbA hS (show ¬ (_ ∨ _) by decide) dL_law_1112 ?_
  refine p_topI (v := (xs 1)) rfl ?_
  refine lv_aload_n hx hb dL_law_1113 rfl (lv_at hl 4 rfl) ?_
  refine lv_iload hx hb dL_law_1114 (lv_at hl 0 rfl) ?_
  refine lv_iconst (v := 2) hx hb dL_law_1116 (by decide) ?_
  refine lv_iadd hx hb dL_law_1117 ?_
  refine p_topI (v := 2) (by decide) ?_
  refine va_sld hx hb hX hbl hbA hS (show ¬ (_ ∨ _) by decide) dL_law_1118 ?_
  refine p_topI (v := (xs 2)) rfl ?_
  refine p_ji (wr := []) (va_runV (As := [.int (xs 1), .int (xs 2)]) (rest := [.int (-1)]) ⟨hx, hb, hml, hown, hts⟩ (c_m_storms l D k _ ma mg (xs 1) (xs 2) hl0) (cwV 2 hts lg_77 rfl rfl rfl (by decide +kernel) ⟨Nat.le_of_ble_eq_true rfl, Nat.le_of_ble_eq_true rfl⟩) (pV hK hN hP hD [0, 1] rfl (by decide) rfl 0 rfl rfl) rfl rfl hl.1 rfl (lv_room (Nat.le_of_ble_eq_true rfl)) dL_law_1119 ⟨by decide, by decide⟩) hP hD hS hA [0, 1] [] rfl rfl (by decide) (by decide) (fun rx7 ux5 H locs wx6 hP hD hS => ?_)
  have hx8 : rx7 = (-1) := wx6
  subst hx8
  have hP : va_P D vwCl [] H := hP
  have hD : va_D A [] := hD
  refine lv_icmp_eq (tgt := 1487) hx hb dL_law_1122 (by decide) (fun cx9 => ?_) (fun h9 => absurd (by decide) h9)
  refine lv_iinc (v := 7) (lv' := [(4, .int 7), (3, .ref out), (2, .ref (ma 0)), (1, .ref (qa 0)), (0, .ref b)]) hx hb dL_law_1487 hl (k := 0) rfl (by decide) (by decide) rfl (fun ls hl => ?_)
  refine lv_goto (tgt := 23) hx hb dL_law_1490 (by decide) ?_
  refine lv_iload hx hb dL_law_23 (lv_at hl 0 rfl) ?_
  refine lv_aload_n hx hb dL_law_25 rfl (lv_at hl 4 rfl) ?_
  refine va_slen hx hb hX hbl hbA hS dL_law_26 ?_
  refine p_topI (v := 7) (by decide) ?_
  refine lv_bipush (v := 7) hx hb dL_law_27 (by decide) ?_
  refine lv_isub hx hb dL_law_29 ?_
  refine p_topI (v := 0) (by decide) ?_
  refine lv_icmp_gt (tgt := 1493) hx hb dL_law_30 (by decide) (fun cx10 => ?_) (fun h9 => absurd (by decide) h9)
  refine lv_iconst (v := 1) hx hb dL_law_1493 (by decide) ?_
  refine va_forget (fun q hq => hAf _ (hS.2.2 q hq)) ?_
  refine W.widen (k := 600002) (n := 7302232) (by decide) (by decide) ?_
  exact lw_ret hx hb hr hlocks dL_law_1494
set_option maxHeartbeats 4000000 in
set_option maxRecDepth 100000 in
theorem lc_walls {p : Program} {e : Env} {s : State} {m : MethodId} {below : List Frame} {meth : Method} {c : Code} (l : Launch) {b : Nat} {xs : Nat → Int32} (C0 : lw_At p s m meth c b 7 xs) (hts : ∀ w ∈ p_tbl, w.before #[Value.ref b] s = true) {D : va_G} {k : Nat → ClassId} (hK : va_K D vwCl (pT k) s) (hN : pN s) {A : Nat → Prop} (hA : ∀ q : Nat, s.heap.size ≤ q → A q) (hAf : ∀ q : Nat, A q → s.heap.size ≤ q) (qa ma : Nat → Nat) (gs mg : Nat → Nat → Int32) (out : Nat) (hf : p_mf mg) {H : Heap} {locs : List Loc} {ls : Array Slot} (hP : va_P D vwCl (p_big k qa ma gs mg) H) (hD : va_D A (p_big k qa ma gs mg)) (hS : va_S A s.heap H locs) (hl : lv_has ls 7 [(4, .int 0), (3, .ref out), (2, .ref (ma 0)), (1, .ref (qa 0)), (0, .ref b)]) : W p l e room_1 s m #[Value.ref b] below meth c H locs 265 37830 (lw_Z below #[Value.ref b] s) (F0 m 1127 ls []) := by
  obtain ⟨hx, hb, hr, hml, hown, -, hX, hbl, hlocks, hgv⟩ := C0
  obtain ⟨hl0, hl1, hl2, hs0, hs19, hs26, hn0, hm0, hm1, hm2, hm3⟩ := hf
  have hbA : ¬ A b := fun h => absurd (hAf b h) (Nat.not_le.mpr hbl)
  have hP := hP.sub (ws' := [((qa 0), .inr (9, [.ref (qa 1), .ref (qa 6), .ref (qa 9), .ref (qa 17), .ref (qa 18), .ref (qa 19), .ref (qa 20), .ref (qa 23), .ref (qa 25), .ref (qa 28), .ref (qa 29), .ref (qa 30), .ref (qa 31), .int 0, .int 0, .int 0])), ((qa 30), .inr (2, [.ref (qa 133), .ref (qa 134), .ref (qa 135), .ref (qa 136), .ref (qa 137), .ref (qa 138), .ref (qa 139), .int 0, .int 0, .int 0, .int 0, .int 0])), ((ma 0), .inr (10, [.int 0, .ref (ma 1), .int 0, .int 0, .ref (ma 4), .ref (ma 5), .ref (ma 6), .int 0, .int 0, .ref (ma 9), .ref (ma 10), .ref (ma 11), .ref (ma 12), .int 0, .ref (ma 14), .ref (ma 15), .int 0, .int 0, .ref (ma 18), .ref (ma 19), .ref (ma 20), .ref (ma 21), .ref (ma 22), .int 0, .ref (ma 24), .int 0, .ref (ma 26), .int 0, .int 0, .int 0, .int 0, .ref (ma 31), .ref (ma 32), .ref (ma 33), .ref (ma 34), .ref (ma 35), .int 0, .int 0, .ref (ma 38), .ref (ma 39), .ref (ma 40), .long 0])), ((ma 10), .inl (k 1, 220, .inl (mg 10)))]) [0, 30, 133, 137] rfl
  have hD := hD.sub (ws' := [((qa 0), .inr (9, [.ref (qa 1), .ref (qa 6), .ref (qa 9), .ref (qa 17), .ref (qa 18), .ref (qa 19), .ref (qa 20), .ref (qa 23), .ref (qa 25), .ref (qa 28), .ref (qa 29), .ref (qa 30), .ref (qa 31), .int 0, .int 0, .int 0])), ((qa 30), .inr (2, [.ref (qa 133), .ref (qa 134), .ref (qa 135), .ref (qa 136), .ref (qa 137), .ref (qa 138), .ref (qa 139), .int 0, .int 0, .int 0, .int 0, .int 0])), ((ma 0), .inr (10, [.int 0, .ref (ma 1), .int 0, .int 0, .ref (ma 4), .ref (ma 5), .ref (ma 6), .int 0, .int 0, .ref (ma 9), .ref (ma 10), .ref (ma 11), .ref (ma 12), .int 0, .ref (ma 14), .ref (ma 15), .int 0, .int 0, .ref (ma 18), .ref (ma 19), .ref (ma 20), .ref (ma 21), .ref (ma 22), .int 0, .ref (ma 24), .int 0, .ref (ma 26), .int 0, .int 0, .int 0, .int 0, .ref (ma 31), .ref (ma 32), .ref (ma 33), .ref (ma 34), .ref (ma 35), .int 0, .int 0, .ref (ma 38), .ref (ma 39), .ref (ma 40), .long 0])), ((ma 10), .inl (k 1, 220, .inl (mg 10)))]) [0, 30, 133, 137] (by decide) rfl
  refine lv_aload_n hx hb dL_law_1127 rfl (lv_at hl 3 rfl) ?_
  refine lv_aload_n hx hb dL_law_1128 rfl (lv_at hl 4 rfl) ?_
  refine lv_iload hx hb dL_law_1129 (lv_at hl 0 rfl) ?_
  refine lv_iconst (v := 1) hx hb dL_law_1131 (by decide) ?_
  refine lv_iadd hx hb dL_law_1132 ?_
  refine p_topI (v := 1) (by decide) ?_
  refine va_sld hx hb hX hbl hbA hS (show ¬ (_ ∨ _) by decide) dL_law_1133 ?_
  refine p_topI (v := (xs 1)) rfl ?_
  refine lv_aload_n hx hb dL_law_1134 rfl (lv_at hl 4 rfl) ?_
  refine lv_iload hx hb dL_law_1135 (lv_at hl 0 rfl) ?_
  refine lv_iconst (v := 2) hx hb dL_law_1137 (by decide) ?_
  refine lv_iadd hx hb dL_law_1138 ?_
  refine p_topI (v := 2) (by decide) ?_
  refine va_sld hx hb hX hbl hbA hS (show ¬ (_ ∨ _) by decide) dL_law_1139 ?_
  refine p_topI (v := (xs 2)) rfl ?_
  refine lv_aload_n hx hb dL_law_1140 rfl (lv_at hl 4 rfl) ?_
  refine lv_iload hx hb dL_law_1141 (lv_at hl 0 rfl) ?_
  refine lv_iconst (v := 3) hx hb dL_law_1143 (by decide) ?_
  refine lv_iadd hx hb dL_law_1144 ?_
  refine p_topI (v := 3) (by decide) ?_
  refine va_sld hx hb hX hbl hbA hS (show ¬ (_ ∨ _) by decide) dL_law_1145 ?_
  refine p_topI (v := (xs 3)) rfl ?_
  refine p_ji (wr := [((ma 0), .inr (10, [.int 0, .ref (ma 1), .int 0, .int 0, .ref (ma 4), .ref (ma 5), .ref (ma 6), .int 0, .int 0, .ref (ma 9), .ref (ma 10), .ref (ma 11), .ref (ma 12), .int 0, .ref (ma 14), .ref (ma 15), .int 0, .int 0, .ref (ma 18), .ref (ma 19), .ref (ma 20), .ref (ma 21), .ref (ma 22), .int 0, .ref (ma 24), .int 0, .ref (ma 26), .int 0, .int 0, .int 0, .int 0, .ref (ma 31), .ref (ma 32), .ref (ma 33), .ref (ma 34), .ref (ma 35), .int 0, .int 0, .ref (ma 38), .ref (ma 39), .ref (ma 40), .long 0])), ((ma 10), .inl (k 1, 220, .inl (mg 10)))]) (va_runV (As := [.int (xs 1), .int (xs 2), .int (xs 3)]) (rest := []) ⟨hx, hb, hml, hown, hts⟩ (c_walls l D k _ qa (xs 1) (xs 2) (xs 3)) (cwV 3 hts lg_78 rfl rfl rfl (by decide +kernel) ⟨Nat.le_of_ble_eq_true rfl, Nat.le_of_ble_eq_true rfl⟩) (pV hK hN hP hD [0, 1] rfl (by decide) rfl 0 rfl rfl) rfl rfl hl.1 rfl (lv_room (Nat.le_of_ble_eq_true rfl)) dL_law_1146 ⟨by decide, by decide⟩) hP hD hS hA [0, 1] [2, 3] rfl rfl (by decide) (by decide) (fun rx3 ux1 H locs wx2 hP hD hS => ?_)
  have hx4 : rx3 = (-1) := wx2
  subst hx4
  have hP : va_P D vwCl [((ma 0), .inr (10, [.int 0, .ref (ma 1), .int 0, .int 0, .ref (ma 4), .ref (ma 5), .ref (ma 6), .int 0, .int 0, .ref (ma 9), .ref (ma 10), .ref (ma 11), .ref (ma 12), .int 0, .ref (ma 14), .ref (ma 15), .int 0, .int 0, .ref (ma 18), .ref (ma 19), .ref (ma 20), .ref (ma 21), .ref (ma 22), .int 0, .ref (ma 24), .int 0, .ref (ma 26), .int 0, .int 0, .int 0, .int 0, .ref (ma 31), .ref (ma 32), .ref (ma 33), .ref (ma 34), .ref (ma 35), .int 0, .int 0, .ref (ma 38), .ref (ma 39), .ref (ma 40), .long 0])), ((ma 10), .inl (k 1, 220, .inl (mg 10)))] H := hP
  have hD : va_D A [((ma 0), .inr (10, [.int 0, .ref (ma 1), .int 0, .int 0, .ref (ma 4), .ref (ma 5), .ref (ma 6), .int 0, .int 0, .ref (ma 9), .ref (ma 10), .ref (ma 11), .ref (ma 12), .int 0, .ref (ma 14), .ref (ma 15), .int 0, .int 0, .ref (ma 18), .ref (ma 19), .ref (ma 20), .ref (ma 21), .ref (ma 22), .int 0, .ref (ma 24), .int 0, .ref (ma 26), .int 0, .int 0, .int 0, .int 0, .ref (ma 31), .ref (ma 32), .ref (ma 33), .ref (ma 34), .ref (ma 35), .int 0, .int 0, .ref (ma 38), .ref (ma 39), .ref (ma 40), .long 0])), ((ma 10), .inl (k 1, 220, .inl (mg 10)))] := hD
  refine lv_aload_n hx hb dL_law_1149 rfl (lv_at hl 2 rfl) ?_
  refine lv_aload_n hx hb dL_law_1150 rfl (lv_at hl 4 rfl) ?_
  refine lv_iload hx hb dL_law_1151 (lv_at hl 0 rfl) ?_
  refine lv_iconst (v := 1) hx hb dL_law_1153 (by decide) ?_
  refine lv_iadd hx hb dL_law_1154 ?_
  refine p_topI (v := 1) (by decide) ?_
  refine va_sld hx hb hX hbl hbA hS (show ¬ (_ ∨ _) by decide) dL_law_1155 ?_
  refine p_topI (v := (xs 1)) rfl ?_
  refine lv_aload_n hx hb dL_law_1156 rfl (lv_at hl 4 rfl) ?_
  refine lv_iload hx hb dL_law_1157 (lv_at hl 0 rfl) ?_
  refine lv_iconst (v := 2) hx hb dL_law_1159 (by decide) ?_
  refine lv_iadd hx hb dL_law_1160 ?_
  refine p_topI (v := 2) (by decide) ?_
  refine va_sld hx hb hX hbl hbA hS (show ¬ (_ ∨ _) by decide) dL_law_1161 ?_
  refine p_topI (v := (xs 2)) rfl ?_
  refine lv_aload_n hx hb dL_law_1162 rfl (lv_at hl 4 rfl) ?_
  refine lv_iload hx hb dL_law_1163 (lv_at hl 0 rfl) ?_
  refine lv_iconst (v := 3) hx hb dL_law_1165 (by decide) ?_
  refine lv_iadd hx hb dL_law_1166 ?_
  refine p_topI (v := 3) (by decide) ?_
  refine va_sld hx hb hX hbl hbA hS (show ¬ (_ ∨ _) by decide) dL_law_1167 ?_
  refine p_topI (v := (xs 3)) rfl ?_
  refine p_ji (wr := []) (va_runV (As := [.int (xs 1), .int (xs 2), .int (xs 3)]) (rest := [.int (-1)]) ⟨hx, hb, hml, hown, hts⟩ (c_m_walls l D k _ ma mg (xs 1) (xs 2) (xs 3) hl0) (cwV 3 hts lg_79 rfl rfl rfl (by decide +kernel) ⟨Nat.le_of_ble_eq_true rfl, Nat.le_of_ble_eq_true rfl⟩) (pV hK hN hP hD [0, 1] rfl (by decide) rfl 0 rfl rfl) rfl rfl hl.1 rfl (lv_room (Nat.le_of_ble_eq_true rfl)) dL_law_1168 ⟨by decide, by decide⟩) hP hD hS hA [0, 1] [] rfl rfl (by decide) (by decide) (fun rx7 ux5 H locs wx6 hP hD hS => ?_)
  have hx8 : rx7 = (-1) := wx6
  subst hx8
  have hP : va_P D vwCl [] H := hP
  have hD : va_D A [] := hD
  refine lv_icmp_eq (tgt := 1487) hx hb dL_law_1171 (by decide) (fun cx9 => ?_) (fun h9 => absurd (by decide) h9)
  refine lv_iinc (v := 7) (lv' := [(4, .int 7), (3, .ref out), (2, .ref (ma 0)), (1, .ref (qa 0)), (0, .ref b)]) hx hb dL_law_1487 hl (k := 0) rfl (by decide) (by decide) rfl (fun ls hl => ?_)
  refine lv_goto (tgt := 23) hx hb dL_law_1490 (by decide) ?_
  refine lv_iload hx hb dL_law_23 (lv_at hl 0 rfl) ?_
  refine lv_aload_n hx hb dL_law_25 rfl (lv_at hl 4 rfl) ?_
  refine va_slen hx hb hX hbl hbA hS dL_law_26 ?_
  refine p_topI (v := 7) (by decide) ?_
  refine lv_bipush (v := 7) hx hb dL_law_27 (by decide) ?_
  refine lv_isub hx hb dL_law_29 ?_
  refine p_topI (v := 0) (by decide) ?_
  refine lv_icmp_gt (tgt := 1493) hx hb dL_law_30 (by decide) (fun cx10 => ?_) (fun h9 => absurd (by decide) h9)
  refine lv_iconst (v := 1) hx hb dL_law_1493 (by decide) ?_
  refine va_forget (fun q hq => hAf _ (hS.2.2 q hq)) ?_
  refine W.widen (k := 600002) (n := 7302232) (by decide) (by decide) ?_
  exact lw_ret hx hb hr hlocks dL_law_1494
set_option maxHeartbeats 4000000 in
set_option maxRecDepth 100000 in
theorem lc_tell {p : Program} {e : Env} {s : State} {m : MethodId} {below : List Frame} {meth : Method} {c : Code} (l : Launch) {b : Nat} {xs : Nat → Int32} (C0 : lw_At p s m meth c b 7 xs) (hts : ∀ w ∈ p_tbl, w.before #[Value.ref b] s = true) {D : va_G} {k : Nat → ClassId} (hK : va_K D vwCl (pT k) s) (hN : pN s) {A : Nat → Prop} (hA : ∀ q : Nat, s.heap.size ≤ q → A q) (hAf : ∀ q : Nat, A q → s.heap.size ≤ q) (qa ma : Nat → Nat) (gs mg : Nat → Nat → Int32) (out : Nat) (hf : p_mf mg) {H : Heap} {locs : List Loc} {ls : Array Slot} (hP : va_P D vwCl (p_big k qa ma gs mg) H) (hD : va_D A (p_big k qa ma gs mg)) (hS : va_S A s.heap H locs) (hl : lv_has ls 7 [(4, .int 0), (3, .ref out), (2, .ref (ma 0)), (1, .ref (qa 0)), (0, .ref b)]) : W p l e room_1 s m #[Value.ref b] below meth c H locs 265 37830 (lw_Z below #[Value.ref b] s) (F0 m 1176 ls []) := by
  obtain ⟨hx, hb, hr, hml, hown, -, hX, hbl, hlocks, hgv⟩ := C0
  obtain ⟨hl0, hl1, hl2, hs0, hs19, hs26, hn0, hm0, hm1, hm2, hm3⟩ := hf
  have hbA : ¬ A b := fun h => absurd (hAf b h) (Nat.not_le.mpr hbl)
  have hP := hP.sub (ws' := [((qa 0), .inr (9, [.ref (qa 1), .ref (qa 6), .ref (qa 9), .ref (qa 17), .ref (qa 18), .ref (qa 19), .ref (qa 20), .ref (qa 23), .ref (qa 25), .ref (qa 28), .ref (qa 29), .ref (qa 30), .ref (qa 31), .int 0, .int 0, .int 0])), ((qa 30), .inr (2, [.ref (qa 133), .ref (qa 134), .ref (qa 135), .ref (qa 136), .ref (qa 137), .ref (qa 138), .ref (qa 139), .int 0, .int 0, .int 0, .int 0, .int 0])), ((ma 0), .inr (10, [.int 0, .ref (ma 1), .int 0, .int 0, .ref (ma 4), .ref (ma 5), .ref (ma 6), .int 0, .int 0, .ref (ma 9), .ref (ma 10), .ref (ma 11), .ref (ma 12), .int 0, .ref (ma 14), .ref (ma 15), .int 0, .int 0, .ref (ma 18), .ref (ma 19), .ref (ma 20), .ref (ma 21), .ref (ma 22), .int 0, .ref (ma 24), .int 0, .ref (ma 26), .int 0, .int 0, .int 0, .int 0, .ref (ma 31), .ref (ma 32), .ref (ma 33), .ref (ma 34), .ref (ma 35), .int 0, .int 0, .ref (ma 38), .ref (ma 39), .ref (ma 40), .long 0])), ((ma 10), .inl (k 1, 220, .inl (mg 10)))]) [0, 30, 133, 137] rfl
  have hD := hD.sub (ws' := [((qa 0), .inr (9, [.ref (qa 1), .ref (qa 6), .ref (qa 9), .ref (qa 17), .ref (qa 18), .ref (qa 19), .ref (qa 20), .ref (qa 23), .ref (qa 25), .ref (qa 28), .ref (qa 29), .ref (qa 30), .ref (qa 31), .int 0, .int 0, .int 0])), ((qa 30), .inr (2, [.ref (qa 133), .ref (qa 134), .ref (qa 135), .ref (qa 136), .ref (qa 137), .ref (qa 138), .ref (qa 139), .int 0, .int 0, .int 0, .int 0, .int 0])), ((ma 0), .inr (10, [.int 0, .ref (ma 1), .int 0, .int 0, .ref (ma 4), .ref (ma 5), .ref (ma 6), .int 0, .int 0, .ref (ma 9), .ref (ma 10), .ref (ma 11), .ref (ma 12), .int 0, .ref (ma 14), .ref (ma 15), .int 0, .int 0, .ref (ma 18), .ref (ma 19), .ref (ma 20), .ref (ma 21), .ref (ma 22), .int 0, .ref (ma 24), .int 0, .ref (ma 26), .int 0, .int 0, .int 0, .int 0, .ref (ma 31), .ref (ma 32), .ref (ma 33), .ref (ma 34), .ref (ma 35), .int 0, .int 0, .ref (ma 38), .ref (ma 39), .ref (ma 40), .long 0])), ((ma 10), .inl (k 1, 220, .inl (mg 10)))]) [0, 30, 133, 137] (by decide) rfl
  refine lv_aload_n hx hb dL_law_1176 rfl (lv_at hl 3 rfl) ?_
  refine lv_aload_n hx hb dL_law_1177 rfl (lv_at hl 4 rfl) ?_
  refine lv_iload hx hb dL_law_1178 (lv_at hl 0 rfl) ?_
  refine lv_iconst (v := 1) hx hb dL_law_1180 (by decide) ?_
  refine lv_iadd hx hb dL_law_1181 ?_
  refine p_topI (v := 1) (by decide) ?_
  refine va_sld hx hb hX hbl hbA hS (show ¬ (_ ∨ _) by decide) dL_law_1182 ?_
  refine p_topI (v := (xs 1)) rfl ?_
  refine lv_aload_n hx hb dL_law_1183 rfl (lv_at hl 4 rfl) ?_
  refine lv_iload hx hb dL_law_1184 (lv_at hl 0 rfl) ?_
  refine lv_iconst (v := 2) hx hb dL_law_1186 (by decide) ?_
  refine lv_iadd hx hb dL_law_1187 ?_
  refine p_topI (v := 2) (by decide) ?_
  refine va_sld hx hb hX hbl hbA hS (show ¬ (_ ∨ _) by decide) dL_law_1188 ?_
  refine p_topI (v := (xs 2)) rfl ?_
  refine lv_aload_n hx hb dL_law_1189 rfl (lv_at hl 4 rfl) ?_
  refine lv_iload hx hb dL_law_1190 (lv_at hl 0 rfl) ?_
  refine lv_iconst (v := 3) hx hb dL_law_1192 (by decide) ?_
  refine lv_iadd hx hb dL_law_1193 ?_
  refine p_topI (v := 3) (by decide) ?_
  refine va_sld hx hb hX hbl hbA hS (show ¬ (_ ∨ _) by decide) dL_law_1194 ?_
  refine p_topI (v := (xs 3)) rfl ?_
  refine p_ji (wr := [((ma 0), .inr (10, [.int 0, .ref (ma 1), .int 0, .int 0, .ref (ma 4), .ref (ma 5), .ref (ma 6), .int 0, .int 0, .ref (ma 9), .ref (ma 10), .ref (ma 11), .ref (ma 12), .int 0, .ref (ma 14), .ref (ma 15), .int 0, .int 0, .ref (ma 18), .ref (ma 19), .ref (ma 20), .ref (ma 21), .ref (ma 22), .int 0, .ref (ma 24), .int 0, .ref (ma 26), .int 0, .int 0, .int 0, .int 0, .ref (ma 31), .ref (ma 32), .ref (ma 33), .ref (ma 34), .ref (ma 35), .int 0, .int 0, .ref (ma 38), .ref (ma 39), .ref (ma 40), .long 0])), ((ma 10), .inl (k 1, 220, .inl (mg 10)))]) (va_runV (As := [.int (xs 1), .int (xs 2), .int (xs 3)]) (rest := []) ⟨hx, hb, hml, hown, hts⟩ (c_tell l D k _ qa (xs 1) (xs 2) (xs 3)) (cwV 3 hts lg_80 rfl rfl rfl (by decide +kernel) ⟨Nat.le_of_ble_eq_true rfl, Nat.le_of_ble_eq_true rfl⟩) (pV hK hN hP hD [0, 1] rfl (by decide) rfl 0 rfl rfl) rfl rfl hl.1 rfl (lv_room (Nat.le_of_ble_eq_true rfl)) dL_law_1195 ⟨by decide, by decide⟩) hP hD hS hA [0, 1] [2, 3] rfl rfl (by decide) (by decide) (fun rx3 ux1 H locs wx2 hP hD hS => ?_)
  have hx4 : rx3 = 0 := wx2
  subst hx4
  have hP : va_P D vwCl [((ma 0), .inr (10, [.int 0, .ref (ma 1), .int 0, .int 0, .ref (ma 4), .ref (ma 5), .ref (ma 6), .int 0, .int 0, .ref (ma 9), .ref (ma 10), .ref (ma 11), .ref (ma 12), .int 0, .ref (ma 14), .ref (ma 15), .int 0, .int 0, .ref (ma 18), .ref (ma 19), .ref (ma 20), .ref (ma 21), .ref (ma 22), .int 0, .ref (ma 24), .int 0, .ref (ma 26), .int 0, .int 0, .int 0, .int 0, .ref (ma 31), .ref (ma 32), .ref (ma 33), .ref (ma 34), .ref (ma 35), .int 0, .int 0, .ref (ma 38), .ref (ma 39), .ref (ma 40), .long 0])), ((ma 10), .inl (k 1, 220, .inl (mg 10)))] H := hP
  have hD : va_D A [((ma 0), .inr (10, [.int 0, .ref (ma 1), .int 0, .int 0, .ref (ma 4), .ref (ma 5), .ref (ma 6), .int 0, .int 0, .ref (ma 9), .ref (ma 10), .ref (ma 11), .ref (ma 12), .int 0, .ref (ma 14), .ref (ma 15), .int 0, .int 0, .ref (ma 18), .ref (ma 19), .ref (ma 20), .ref (ma 21), .ref (ma 22), .int 0, .ref (ma 24), .int 0, .ref (ma 26), .int 0, .int 0, .int 0, .int 0, .ref (ma 31), .ref (ma 32), .ref (ma 33), .ref (ma 34), .ref (ma 35), .int 0, .int 0, .ref (ma 38), .ref (ma 39), .ref (ma 40), .long 0])), ((ma 10), .inl (k 1, 220, .inl (mg 10)))] := hD
  refine lv_aload_n hx hb dL_law_1198 rfl (lv_at hl 2 rfl) ?_
  refine lv_aload_n hx hb dL_law_1199 rfl (lv_at hl 4 rfl) ?_
  refine lv_iload hx hb dL_law_1200 (lv_at hl 0 rfl) ?_
  refine lv_iconst (v := 1) hx hb dL_law_1202 (by decide) ?_
  refine lv_iadd hx hb dL_law_1203 ?_
  refine p_topI (v := 1) (by decide) ?_
  refine va_sld hx hb hX hbl hbA hS (show ¬ (_ ∨ _) by decide) dL_law_1204 ?_
  refine p_topI (v := (xs 1)) rfl ?_
  refine lv_aload_n hx hb dL_law_1205 rfl (lv_at hl 4 rfl) ?_
  refine lv_iload hx hb dL_law_1206 (lv_at hl 0 rfl) ?_
  refine lv_iconst (v := 2) hx hb dL_law_1208 (by decide) ?_
  refine lv_iadd hx hb dL_law_1209 ?_
  refine p_topI (v := 2) (by decide) ?_
  refine va_sld hx hb hX hbl hbA hS (show ¬ (_ ∨ _) by decide) dL_law_1210 ?_
  refine p_topI (v := (xs 2)) rfl ?_
  refine lv_aload_n hx hb dL_law_1211 rfl (lv_at hl 4 rfl) ?_
  refine lv_iload hx hb dL_law_1212 (lv_at hl 0 rfl) ?_
  refine lv_iconst (v := 3) hx hb dL_law_1214 (by decide) ?_
  refine lv_iadd hx hb dL_law_1215 ?_
  refine p_topI (v := 3) (by decide) ?_
  refine va_sld hx hb hX hbl hbA hS (show ¬ (_ ∨ _) by decide) dL_law_1216 ?_
  refine p_topI (v := (xs 3)) rfl ?_
  refine p_ji (wr := []) (va_runV (As := [.int (xs 1), .int (xs 2), .int (xs 3)]) (rest := [.int 0]) ⟨hx, hb, hml, hown, hts⟩ (c_m_tell l D k _ ma mg (xs 1) (xs 2) (xs 3) hl0) (cwV 3 hts lg_81 rfl rfl rfl (by decide +kernel) ⟨Nat.le_of_ble_eq_true rfl, Nat.le_of_ble_eq_true rfl⟩) (pV hK hN hP hD [0, 1] rfl (by decide) rfl 0 rfl rfl) rfl rfl hl.1 rfl (lv_room (Nat.le_of_ble_eq_true rfl)) dL_law_1217 ⟨by decide, by decide⟩) hP hD hS hA [0, 1] [] rfl rfl (by decide) (by decide) (fun rx7 ux5 H locs wx6 hP hD hS => ?_)
  have hx8 : rx7 = 0 := wx6
  subst hx8
  have hP : va_P D vwCl [] H := hP
  have hD : va_D A [] := hD
  refine lv_icmp_eq (tgt := 1487) hx hb dL_law_1220 (by decide) (fun cx9 => ?_) (fun h9 => absurd (by decide) h9)
  refine lv_iinc (v := 7) (lv' := [(4, .int 7), (3, .ref out), (2, .ref (ma 0)), (1, .ref (qa 0)), (0, .ref b)]) hx hb dL_law_1487 hl (k := 0) rfl (by decide) (by decide) rfl (fun ls hl => ?_)
  refine lv_goto (tgt := 23) hx hb dL_law_1490 (by decide) ?_
  refine lv_iload hx hb dL_law_23 (lv_at hl 0 rfl) ?_
  refine lv_aload_n hx hb dL_law_25 rfl (lv_at hl 4 rfl) ?_
  refine va_slen hx hb hX hbl hbA hS dL_law_26 ?_
  refine p_topI (v := 7) (by decide) ?_
  refine lv_bipush (v := 7) hx hb dL_law_27 (by decide) ?_
  refine lv_isub hx hb dL_law_29 ?_
  refine p_topI (v := 0) (by decide) ?_
  refine lv_icmp_gt (tgt := 1493) hx hb dL_law_30 (by decide) (fun cx10 => ?_) (fun h9 => absurd (by decide) h9)
  refine lv_iconst (v := 1) hx hb dL_law_1493 (by decide) ?_
  refine va_forget (fun q hq => hAf _ (hS.2.2 q hq)) ?_
  refine W.widen (k := 600002) (n := 7302232) (by decide) (by decide) ?_
  exact lw_ret hx hb hr hlocks dL_law_1494
set_option maxHeartbeats 4000000 in
set_option maxRecDepth 100000 in
theorem lc_found {p : Program} {e : Env} {s : State} {m : MethodId} {below : List Frame} {meth : Method} {c : Code} (l : Launch) {b : Nat} {xs : Nat → Int32} (C0 : lw_At p s m meth c b 7 xs) (hts : ∀ w ∈ p_tbl, w.before #[Value.ref b] s = true) {D : va_G} {k : Nat → ClassId} (hK : va_K D vwCl (pT k) s) (hN : pN s) {A : Nat → Prop} (hA : ∀ q : Nat, s.heap.size ≤ q → A q) (hAf : ∀ q : Nat, A q → s.heap.size ≤ q) (qa ma : Nat → Nat) (gs mg : Nat → Nat → Int32) (out : Nat) (hf : p_mf mg) {H : Heap} {locs : List Loc} {ls : Array Slot} (hP : va_P D vwCl (p_big k qa ma gs mg) H) (hD : va_D A (p_big k qa ma gs mg)) (hS : va_S A s.heap H locs) (hl : lv_has ls 7 [(4, .int 0), (3, .ref out), (2, .ref (ma 0)), (1, .ref (qa 0)), (0, .ref b)]) : W p l e room_1 s m #[Value.ref b] below meth c H locs 265 37830 (lw_Z below #[Value.ref b] s) (F0 m 1225 ls []) := by
  obtain ⟨hx, hb, hr, hml, hown, -, hX, hbl, hlocks, hgv⟩ := C0
  obtain ⟨hl0, hl1, hl2, hs0, hs19, hs26, hn0, hm0, hm1, hm2, hm3⟩ := hf
  have hbA : ¬ A b := fun h => absurd (hAf b h) (Nat.not_le.mpr hbl)
  have hP := hP.sub (ws' := [((qa 0), .inr (9, [.ref (qa 1), .ref (qa 6), .ref (qa 9), .ref (qa 17), .ref (qa 18), .ref (qa 19), .ref (qa 20), .ref (qa 23), .ref (qa 25), .ref (qa 28), .ref (qa 29), .ref (qa 30), .ref (qa 31), .int 0, .int 0, .int 0])), ((qa 9), .inr (8, [.ref (qa 10), .ref (qa 11), .ref (qa 12), .ref (qa 13), .ref (qa 14), .ref (qa 15), .ref (qa 16), .int 0, .int (-1), .int 0, .int 0])), ((qa 20), .inr (4, [.ref (qa 21), .ref (qa 22), .ref (qa 30)])), ((qa 21), .inl (k 1, 6, .inl (fun _ => 0))), ((qa 22), .inl (k 1, 6, .inl (fun _ => 0))), ((qa 25), .inr (0, [.ref (qa 20), .ref (qa 26), .int 0, .int 0, .int 0, .ref (qa 9), .ref (qa 27)])), ((qa 27), .inl (k 1, 384, .inl (fun _ => 0))), ((qa 30), .inr (2, [.ref (qa 133), .ref (qa 134), .ref (qa 135), .ref (qa 136), .ref (qa 137), .ref (qa 138), .ref (qa 139), .int 0, .int 0, .int 0, .int 0, .int 0])), ((ma 0), .inr (10, [.int 0, .ref (ma 1), .int 0, .int 0, .ref (ma 4), .ref (ma 5), .ref (ma 6), .int 0, .int 0, .ref (ma 9), .ref (ma 10), .ref (ma 11), .ref (ma 12), .int 0, .ref (ma 14), .ref (ma 15), .int 0, .int 0, .ref (ma 18), .ref (ma 19), .ref (ma 20), .ref (ma 21), .ref (ma 22), .int 0, .ref (ma 24), .int 0, .ref (ma 26), .int 0, .int 0, .int 0, .int 0, .ref (ma 31), .ref (ma 32), .ref (ma 33), .ref (ma 34), .ref (ma 35), .int 0, .int 0, .ref (ma 38), .ref (ma 39), .ref (ma 40), .long 0])), ((ma 10), .inl (k 1, 220, .inl (mg 10))), ((ma 22), .inl (k 1, 1320, .inl (mg 22))), ((ma 33), .inl (k 1, 14400, .inl (mg 33)))]) [0, 9, 20, 21, 22, 25, 27, 30, 133, 137, 141, 143] rfl
  have hD := hD.sub (ws' := [((qa 0), .inr (9, [.ref (qa 1), .ref (qa 6), .ref (qa 9), .ref (qa 17), .ref (qa 18), .ref (qa 19), .ref (qa 20), .ref (qa 23), .ref (qa 25), .ref (qa 28), .ref (qa 29), .ref (qa 30), .ref (qa 31), .int 0, .int 0, .int 0])), ((qa 9), .inr (8, [.ref (qa 10), .ref (qa 11), .ref (qa 12), .ref (qa 13), .ref (qa 14), .ref (qa 15), .ref (qa 16), .int 0, .int (-1), .int 0, .int 0])), ((qa 20), .inr (4, [.ref (qa 21), .ref (qa 22), .ref (qa 30)])), ((qa 21), .inl (k 1, 6, .inl (fun _ => 0))), ((qa 22), .inl (k 1, 6, .inl (fun _ => 0))), ((qa 25), .inr (0, [.ref (qa 20), .ref (qa 26), .int 0, .int 0, .int 0, .ref (qa 9), .ref (qa 27)])), ((qa 27), .inl (k 1, 384, .inl (fun _ => 0))), ((qa 30), .inr (2, [.ref (qa 133), .ref (qa 134), .ref (qa 135), .ref (qa 136), .ref (qa 137), .ref (qa 138), .ref (qa 139), .int 0, .int 0, .int 0, .int 0, .int 0])), ((ma 0), .inr (10, [.int 0, .ref (ma 1), .int 0, .int 0, .ref (ma 4), .ref (ma 5), .ref (ma 6), .int 0, .int 0, .ref (ma 9), .ref (ma 10), .ref (ma 11), .ref (ma 12), .int 0, .ref (ma 14), .ref (ma 15), .int 0, .int 0, .ref (ma 18), .ref (ma 19), .ref (ma 20), .ref (ma 21), .ref (ma 22), .int 0, .ref (ma 24), .int 0, .ref (ma 26), .int 0, .int 0, .int 0, .int 0, .ref (ma 31), .ref (ma 32), .ref (ma 33), .ref (ma 34), .ref (ma 35), .int 0, .int 0, .ref (ma 38), .ref (ma 39), .ref (ma 40), .long 0])), ((ma 10), .inl (k 1, 220, .inl (mg 10))), ((ma 22), .inl (k 1, 1320, .inl (mg 22))), ((ma 33), .inl (k 1, 14400, .inl (mg 33)))]) [0, 9, 20, 21, 22, 25, 27, 30, 133, 137, 141, 143] (by decide) rfl
  by_cases cA : (xs 1) < 0
  · skip
    refine lv_aload_n hx hb dL_law_1225 rfl (lv_at hl 3 rfl) ?_
    refine lv_aload_n hx hb dL_law_1226 rfl (lv_at hl 4 rfl) ?_
    refine lv_iload hx hb dL_law_1227 (lv_at hl 0 rfl) ?_
    refine lv_iconst (v := 1) hx hb dL_law_1229 (by decide) ?_
    refine lv_iadd hx hb dL_law_1230 ?_
    refine p_topI (v := 1) (by decide) ?_
    refine va_sld hx hb hX hbl hbA hS (show ¬ (_ ∨ _) by decide) dL_law_1231 ?_
    refine p_topI (v := (xs 1)) rfl ?_
    refine p_ji (wr := [((ma 0), .inr (10, [.int 0, .ref (ma 1), .int 0, .int 0, .ref (ma 4), .ref (ma 5), .ref (ma 6), .int 0, .int 0, .ref (ma 9), .ref (ma 10), .ref (ma 11), .ref (ma 12), .int 0, .ref (ma 14), .ref (ma 15), .int 0, .int 0, .ref (ma 18), .ref (ma 19), .ref (ma 20), .ref (ma 21), .ref (ma 22), .int 0, .ref (ma 24), .int 0, .ref (ma 26), .int 0, .int 0, .int 0, .int 0, .ref (ma 31), .ref (ma 32), .ref (ma 33), .ref (ma 34), .ref (ma 35), .int 0, .int 0, .ref (ma 38), .ref (ma 39), .ref (ma 40), .long 0])), ((ma 10), .inl (k 1, 220, .inl (mg 10))), ((ma 22), .inl (k 1, 1320, .inl (mg 22))), ((ma 33), .inl (k 1, 14400, .inl (mg 33)))]) (va_runV (As := [.int (xs 1)]) (rest := []) ⟨hx, hb, hml, hown, hts⟩ (c_found_lo l D k _ qa (xs 1) cA) (cwV 1 hts lg_82 rfl rfl rfl (by decide +kernel) ⟨Nat.le_of_ble_eq_true rfl, Nat.le_of_ble_eq_true rfl⟩) (pV hK hN hP hD [0, 7, 2, 3, 4, 5, 6, 1] rfl (by decide) rfl 0 rfl rfl) rfl rfl hl.1 rfl (lv_room (Nat.le_of_ble_eq_true rfl)) dL_law_1232 ⟨by decide, by decide⟩) hP hD hS hA [0, 7, 2, 3, 4, 5, 6, 1] [8, 9, 10, 11] rfl rfl (by decide) (by decide) (fun rx3 ux1 H locs wx2 hP hD hS => ?_)
    have hx4 : rx3 = (-3) := wx2
    subst hx4
    have hP : va_P D vwCl [((ma 0), .inr (10, [.int 0, .ref (ma 1), .int 0, .int 0, .ref (ma 4), .ref (ma 5), .ref (ma 6), .int 0, .int 0, .ref (ma 9), .ref (ma 10), .ref (ma 11), .ref (ma 12), .int 0, .ref (ma 14), .ref (ma 15), .int 0, .int 0, .ref (ma 18), .ref (ma 19), .ref (ma 20), .ref (ma 21), .ref (ma 22), .int 0, .ref (ma 24), .int 0, .ref (ma 26), .int 0, .int 0, .int 0, .int 0, .ref (ma 31), .ref (ma 32), .ref (ma 33), .ref (ma 34), .ref (ma 35), .int 0, .int 0, .ref (ma 38), .ref (ma 39), .ref (ma 40), .long 0])), ((ma 10), .inl (k 1, 220, .inl (mg 10))), ((ma 22), .inl (k 1, 1320, .inl (mg 22))), ((ma 33), .inl (k 1, 14400, .inl (mg 33)))] H := hP
    have hD : va_D A [((ma 0), .inr (10, [.int 0, .ref (ma 1), .int 0, .int 0, .ref (ma 4), .ref (ma 5), .ref (ma 6), .int 0, .int 0, .ref (ma 9), .ref (ma 10), .ref (ma 11), .ref (ma 12), .int 0, .ref (ma 14), .ref (ma 15), .int 0, .int 0, .ref (ma 18), .ref (ma 19), .ref (ma 20), .ref (ma 21), .ref (ma 22), .int 0, .ref (ma 24), .int 0, .ref (ma 26), .int 0, .int 0, .int 0, .int 0, .ref (ma 31), .ref (ma 32), .ref (ma 33), .ref (ma 34), .ref (ma 35), .int 0, .int 0, .ref (ma 38), .ref (ma 39), .ref (ma 40), .long 0])), ((ma 10), .inl (k 1, 220, .inl (mg 10))), ((ma 22), .inl (k 1, 1320, .inl (mg 22))), ((ma 33), .inl (k 1, 14400, .inl (mg 33)))] := hD
    refine lv_aload_n hx hb dL_law_1235 rfl (lv_at hl 2 rfl) ?_
    refine lv_aload_n hx hb dL_law_1236 rfl (lv_at hl 4 rfl) ?_
    refine lv_iload hx hb dL_law_1237 (lv_at hl 0 rfl) ?_
    refine lv_iconst (v := 1) hx hb dL_law_1239 (by decide) ?_
    refine lv_iadd hx hb dL_law_1240 ?_
    refine p_topI (v := 1) (by decide) ?_
    refine va_sld hx hb hX hbl hbA hS (show ¬ (_ ∨ _) by decide) dL_law_1241 ?_
    refine p_topI (v := (xs 1)) rfl ?_
    refine p_ji (wr := [((ma 22), .inl (k 1, 1320, .inl (mg 22))), ((ma 33), .inl (k 1, 14400, .inl (mg 33)))]) (va_runV (As := [.int (xs 1)]) (rest := [.int (-3)]) ⟨hx, hb, hml, hown, hts⟩ (c_m_found_lo l D k _ ma mg (xs 1) hl0 cA) (cwV 1 hts lg_83 rfl rfl rfl (by decide +kernel) ⟨Nat.le_of_ble_eq_true rfl, Nat.le_of_ble_eq_true rfl⟩) (pV hK hN hP hD [0, 1] rfl (by decide) rfl 0 rfl rfl) rfl rfl hl.1 rfl (lv_room (Nat.le_of_ble_eq_true rfl)) dL_law_1242 ⟨by decide, by decide⟩) hP hD hS hA [0, 1] [2, 3] rfl rfl (by decide) (by decide) (fun rx7 ux5 H locs wx6 hP hD hS => ?_)
    have hx8 : rx7 = (-3) := wx6
    subst hx8
    have hP : va_P D vwCl [((ma 22), .inl (k 1, 1320, .inl (mg 22))), ((ma 33), .inl (k 1, 14400, .inl (mg 33)))] H := hP
    have hD : va_D A [((ma 22), .inl (k 1, 1320, .inl (mg 22))), ((ma 33), .inl (k 1, 14400, .inl (mg 33)))] := hD
    refine lv_icmp_eq (tgt := 1487) hx hb dL_law_1245 (by decide) (fun cx9 => ?_) (fun h9 => absurd (by decide) h9)
    refine lv_iinc (v := 7) (lv' := [(4, .int 7), (3, .ref out), (2, .ref (ma 0)), (1, .ref (qa 0)), (0, .ref b)]) hx hb dL_law_1487 hl (k := 0) rfl (by decide) (by decide) rfl (fun ls hl => ?_)
    refine lv_goto (tgt := 23) hx hb dL_law_1490 (by decide) ?_
    refine lv_iload hx hb dL_law_23 (lv_at hl 0 rfl) ?_
    refine lv_aload_n hx hb dL_law_25 rfl (lv_at hl 4 rfl) ?_
    refine va_slen hx hb hX hbl hbA hS dL_law_26 ?_
    refine p_topI (v := 7) (by decide) ?_
    refine lv_bipush (v := 7) hx hb dL_law_27 (by decide) ?_
    refine lv_isub hx hb dL_law_29 ?_
    refine p_topI (v := 0) (by decide) ?_
    refine lv_icmp_gt (tgt := 1493) hx hb dL_law_30 (by decide) (fun cx10 => ?_) (fun h9 => absurd (by decide) h9)
    refine lv_iconst (v := 1) hx hb dL_law_1493 (by decide) ?_
    refine va_forget (fun q hq => hAf _ (hS.2.2 q hq)) ?_
    refine W.widen (k := 600002) (n := 7302232) (by decide) (by decide) ?_
    exact lw_ret hx hb hr hlocks dL_law_1494
  by_cases cB : 1 < (xs 1)
  · skip
    refine lv_aload_n hx hb dL_law_1225 rfl (lv_at hl 3 rfl) ?_
    refine lv_aload_n hx hb dL_law_1226 rfl (lv_at hl 4 rfl) ?_
    refine lv_iload hx hb dL_law_1227 (lv_at hl 0 rfl) ?_
    refine lv_iconst (v := 1) hx hb dL_law_1229 (by decide) ?_
    refine lv_iadd hx hb dL_law_1230 ?_
    refine p_topI (v := 1) (by decide) ?_
    refine va_sld hx hb hX hbl hbA hS (show ¬ (_ ∨ _) by decide) dL_law_1231 ?_
    refine p_topI (v := (xs 1)) rfl ?_
    refine p_ji (wr := [((ma 0), .inr (10, [.int 0, .ref (ma 1), .int 0, .int 0, .ref (ma 4), .ref (ma 5), .ref (ma 6), .int 0, .int 0, .ref (ma 9), .ref (ma 10), .ref (ma 11), .ref (ma 12), .int 0, .ref (ma 14), .ref (ma 15), .int 0, .int 0, .ref (ma 18), .ref (ma 19), .ref (ma 20), .ref (ma 21), .ref (ma 22), .int 0, .ref (ma 24), .int 0, .ref (ma 26), .int 0, .int 0, .int 0, .int 0, .ref (ma 31), .ref (ma 32), .ref (ma 33), .ref (ma 34), .ref (ma 35), .int 0, .int 0, .ref (ma 38), .ref (ma 39), .ref (ma 40), .long 0])), ((ma 10), .inl (k 1, 220, .inl (mg 10))), ((ma 22), .inl (k 1, 1320, .inl (mg 22))), ((ma 33), .inl (k 1, 14400, .inl (mg 33)))]) (va_runV (As := [.int (xs 1)]) (rest := []) ⟨hx, hb, hml, hown, hts⟩ (c_found_hi l D k _ qa (xs 1) cB) (cwV 1 hts lg_84 rfl rfl rfl (by decide +kernel) ⟨Nat.le_of_ble_eq_true rfl, Nat.le_of_ble_eq_true rfl⟩) (pV hK hN hP hD [0, 7, 2, 3, 4, 5, 6, 1] rfl (by decide) rfl 0 rfl rfl) rfl rfl hl.1 rfl (lv_room (Nat.le_of_ble_eq_true rfl)) dL_law_1232 ⟨by decide, by decide⟩) hP hD hS hA [0, 7, 2, 3, 4, 5, 6, 1] [8, 9, 10, 11] rfl rfl (by decide) (by decide) (fun rx13 ux11 H locs wx12 hP hD hS => ?_)
    have hx14 : rx13 = (-3) := wx12
    subst hx14
    have hP : va_P D vwCl [((ma 0), .inr (10, [.int 0, .ref (ma 1), .int 0, .int 0, .ref (ma 4), .ref (ma 5), .ref (ma 6), .int 0, .int 0, .ref (ma 9), .ref (ma 10), .ref (ma 11), .ref (ma 12), .int 0, .ref (ma 14), .ref (ma 15), .int 0, .int 0, .ref (ma 18), .ref (ma 19), .ref (ma 20), .ref (ma 21), .ref (ma 22), .int 0, .ref (ma 24), .int 0, .ref (ma 26), .int 0, .int 0, .int 0, .int 0, .ref (ma 31), .ref (ma 32), .ref (ma 33), .ref (ma 34), .ref (ma 35), .int 0, .int 0, .ref (ma 38), .ref (ma 39), .ref (ma 40), .long 0])), ((ma 10), .inl (k 1, 220, .inl (mg 10))), ((ma 22), .inl (k 1, 1320, .inl (mg 22))), ((ma 33), .inl (k 1, 14400, .inl (mg 33)))] H := hP
    have hD : va_D A [((ma 0), .inr (10, [.int 0, .ref (ma 1), .int 0, .int 0, .ref (ma 4), .ref (ma 5), .ref (ma 6), .int 0, .int 0, .ref (ma 9), .ref (ma 10), .ref (ma 11), .ref (ma 12), .int 0, .ref (ma 14), .ref (ma 15), .int 0, .int 0, .ref (ma 18), .ref (ma 19), .ref (ma 20), .ref (ma 21), .ref (ma 22), .int 0, .ref (ma 24), .int 0, .ref (ma 26), .int 0, .int 0, .int 0, .int 0, .ref (ma 31), .ref (ma 32), .ref (ma 33), .ref (ma 34), .ref (ma 35), .int 0, .int 0, .ref (ma 38), .ref (ma 39), .ref (ma 40), .long 0])), ((ma 10), .inl (k 1, 220, .inl (mg 10))), ((ma 22), .inl (k 1, 1320, .inl (mg 22))), ((ma 33), .inl (k 1, 14400, .inl (mg 33)))] := hD
    refine lv_aload_n hx hb dL_law_1235 rfl (lv_at hl 2 rfl) ?_
    refine lv_aload_n hx hb dL_law_1236 rfl (lv_at hl 4 rfl) ?_
    refine lv_iload hx hb dL_law_1237 (lv_at hl 0 rfl) ?_
    refine lv_iconst (v := 1) hx hb dL_law_1239 (by decide) ?_
    refine lv_iadd hx hb dL_law_1240 ?_
    refine p_topI (v := 1) (by decide) ?_
    refine va_sld hx hb hX hbl hbA hS (show ¬ (_ ∨ _) by decide) dL_law_1241 ?_
    refine p_topI (v := (xs 1)) rfl ?_
    refine p_ji (wr := [((ma 22), .inl (k 1, 1320, .inl (mg 22))), ((ma 33), .inl (k 1, 14400, .inl (mg 33)))]) (va_runV (As := [.int (xs 1)]) (rest := [.int (-3)]) ⟨hx, hb, hml, hown, hts⟩ (c_m_found_hi l D k _ ma mg (xs 1) hl0 cB) (cwV 1 hts lg_85 rfl rfl rfl (by decide +kernel) ⟨Nat.le_of_ble_eq_true rfl, Nat.le_of_ble_eq_true rfl⟩) (pV hK hN hP hD [0, 1] rfl (by decide) rfl 0 rfl rfl) rfl rfl hl.1 rfl (lv_room (Nat.le_of_ble_eq_true rfl)) dL_law_1242 ⟨by decide, by decide⟩) hP hD hS hA [0, 1] [2, 3] rfl rfl (by decide) (by decide) (fun rx17 ux15 H locs wx16 hP hD hS => ?_)
    have hx18 : rx17 = (-3) := wx16
    subst hx18
    have hP : va_P D vwCl [((ma 22), .inl (k 1, 1320, .inl (mg 22))), ((ma 33), .inl (k 1, 14400, .inl (mg 33)))] H := hP
    have hD : va_D A [((ma 22), .inl (k 1, 1320, .inl (mg 22))), ((ma 33), .inl (k 1, 14400, .inl (mg 33)))] := hD
    refine lv_icmp_eq (tgt := 1487) hx hb dL_law_1245 (by decide) (fun cx19 => ?_) (fun h9 => absurd (by decide) h9)
    refine lv_iinc (v := 7) (lv' := [(4, .int 7), (3, .ref out), (2, .ref (ma 0)), (1, .ref (qa 0)), (0, .ref b)]) hx hb dL_law_1487 hl (k := 0) rfl (by decide) (by decide) rfl (fun ls hl => ?_)
    refine lv_goto (tgt := 23) hx hb dL_law_1490 (by decide) ?_
    refine lv_iload hx hb dL_law_23 (lv_at hl 0 rfl) ?_
    refine lv_aload_n hx hb dL_law_25 rfl (lv_at hl 4 rfl) ?_
    refine va_slen hx hb hX hbl hbA hS dL_law_26 ?_
    refine p_topI (v := 7) (by decide) ?_
    refine lv_bipush (v := 7) hx hb dL_law_27 (by decide) ?_
    refine lv_isub hx hb dL_law_29 ?_
    refine p_topI (v := 0) (by decide) ?_
    refine lv_icmp_gt (tgt := 1493) hx hb dL_law_30 (by decide) (fun cx20 => ?_) (fun h9 => absurd (by decide) h9)
    refine lv_iconst (v := 1) hx hb dL_law_1493 (by decide) ?_
    refine va_forget (fun q hq => hAf _ (hS.2.2 q hq)) ?_
    refine W.widen (k := 600002) (n := 7302232) (by decide) (by decide) ?_
    exact lw_ret hx hb hr hlocks dL_law_1494
  rcases (show (xs 1) = 0 ∨ (xs 1) = 1 by revert cA cB; simp only [Int32.lt_iff_toInt_lt, ← Int32.toInt_inj, (by decide : (0 : Int32).toInt = 0), (by decide : (1 : Int32).toInt = 1)]; omega) with cC | cC
  · skip
    refine lv_aload_n hx hb dL_law_1225 rfl (lv_at hl 3 rfl) ?_
    refine lv_aload_n hx hb dL_law_1226 rfl (lv_at hl 4 rfl) ?_
    refine lv_iload hx hb dL_law_1227 (lv_at hl 0 rfl) ?_
    refine lv_iconst (v := 1) hx hb dL_law_1229 (by decide) ?_
    refine lv_iadd hx hb dL_law_1230 ?_
    refine p_topI (v := 1) (by decide) ?_
    refine va_sld hx hb hX hbl hbA hS (show ¬ (_ ∨ _) by decide) dL_law_1231 ?_
    refine p_topI (v := 0) cC ?_
    refine p_ji (wr := [((ma 0), .inr (10, [.int 0, .ref (ma 1), .int 0, .int 0, .ref (ma 4), .ref (ma 5), .ref (ma 6), .int 0, .int 0, .ref (ma 9), .ref (ma 10), .ref (ma 11), .ref (ma 12), .int 0, .ref (ma 14), .ref (ma 15), .int 0, .int 0, .ref (ma 18), .ref (ma 19), .ref (ma 20), .ref (ma 21), .ref (ma 22), .int 0, .ref (ma 24), .int 0, .ref (ma 26), .int 0, .int 0, .int 0, .int 0, .ref (ma 31), .ref (ma 32), .ref (ma 33), .ref (ma 34), .ref (ma 35), .int 0, .int 0, .ref (ma 38), .ref (ma 39), .ref (ma 40), .long 0])), ((ma 10), .inl (k 1, 220, .inl (mg 10))), ((ma 22), .inl (k 1, 1320, .inl (mg 22))), ((ma 33), .inl (k 1, 14400, .inl (mg 33)))]) (va_runV (As := [.int 0]) (rest := []) ⟨hx, hb, hml, hown, hts⟩ (c_found_0 l D k _ qa) (cwV 1 hts lg_86 rfl rfl rfl (by decide +kernel) ⟨Nat.le_of_ble_eq_true rfl, Nat.le_of_ble_eq_true rfl⟩) (pV hK hN hP hD [0, 7, 2, 3, 4, 5, 6, 1] rfl (by decide) rfl 0 rfl rfl) rfl rfl hl.1 rfl (lv_room (Nat.le_of_ble_eq_true rfl)) dL_law_1232 ⟨by decide, by decide⟩) hP hD hS hA [0, 7, 2, 3, 4, 5, 6, 1] [8, 9, 10, 11] rfl rfl (by decide) (by decide) (fun rx23 ux21 H locs wx22 hP hD hS => ?_)
    have hx24 : rx23 = 1 := wx22
    subst hx24
    have hP : va_P D vwCl [((ma 0), .inr (10, [.int 0, .ref (ma 1), .int 0, .int 0, .ref (ma 4), .ref (ma 5), .ref (ma 6), .int 0, .int 0, .ref (ma 9), .ref (ma 10), .ref (ma 11), .ref (ma 12), .int 0, .ref (ma 14), .ref (ma 15), .int 0, .int 0, .ref (ma 18), .ref (ma 19), .ref (ma 20), .ref (ma 21), .ref (ma 22), .int 0, .ref (ma 24), .int 0, .ref (ma 26), .int 0, .int 0, .int 0, .int 0, .ref (ma 31), .ref (ma 32), .ref (ma 33), .ref (ma 34), .ref (ma 35), .int 0, .int 0, .ref (ma 38), .ref (ma 39), .ref (ma 40), .long 0])), ((ma 10), .inl (k 1, 220, .inl (mg 10))), ((ma 22), .inl (k 1, 1320, .inl (mg 22))), ((ma 33), .inl (k 1, 14400, .inl (mg 33)))] H := hP
    have hD : va_D A [((ma 0), .inr (10, [.int 0, .ref (ma 1), .int 0, .int 0, .ref (ma 4), .ref (ma 5), .ref (ma 6), .int 0, .int 0, .ref (ma 9), .ref (ma 10), .ref (ma 11), .ref (ma 12), .int 0, .ref (ma 14), .ref (ma 15), .int 0, .int 0, .ref (ma 18), .ref (ma 19), .ref (ma 20), .ref (ma 21), .ref (ma 22), .int 0, .ref (ma 24), .int 0, .ref (ma 26), .int 0, .int 0, .int 0, .int 0, .ref (ma 31), .ref (ma 32), .ref (ma 33), .ref (ma 34), .ref (ma 35), .int 0, .int 0, .ref (ma 38), .ref (ma 39), .ref (ma 40), .long 0])), ((ma 10), .inl (k 1, 220, .inl (mg 10))), ((ma 22), .inl (k 1, 1320, .inl (mg 22))), ((ma 33), .inl (k 1, 14400, .inl (mg 33)))] := hD
    refine lv_aload_n hx hb dL_law_1235 rfl (lv_at hl 2 rfl) ?_
    refine lv_aload_n hx hb dL_law_1236 rfl (lv_at hl 4 rfl) ?_
    refine lv_iload hx hb dL_law_1237 (lv_at hl 0 rfl) ?_
    refine lv_iconst (v := 1) hx hb dL_law_1239 (by decide) ?_
    refine lv_iadd hx hb dL_law_1240 ?_
    refine p_topI (v := 1) (by decide) ?_
    refine va_sld hx hb hX hbl hbA hS (show ¬ (_ ∨ _) by decide) dL_law_1241 ?_
    refine p_topI (v := 0) cC ?_
    refine p_ji (wr := []) (va_runV (As := [.int 0]) (rest := [.int 1]) ⟨hx, hb, hml, hown, hts⟩ (c_m_found_0 l D k _ ma mg hl0 hs26) (cwV 1 hts lg_87 rfl rfl rfl (by decide +kernel) ⟨Nat.le_of_ble_eq_true rfl, Nat.le_of_ble_eq_true rfl⟩) (pV hK hN hP hD [0, 1, 2, 3] rfl (by decide) rfl 0 rfl rfl) rfl rfl hl.1 rfl (lv_room (Nat.le_of_ble_eq_true rfl)) dL_law_1242 ⟨by decide, by decide⟩) hP hD hS hA [0, 1, 2, 3] [] rfl rfl (by decide) (by decide) (fun rx27 ux25 H locs wx26 hP hD hS => ?_)
    have hx28 : rx27 = 1 := wx26
    subst hx28
    have hP : va_P D vwCl [] H := hP
    have hD : va_D A [] := hD
    refine lv_icmp_eq (tgt := 1487) hx hb dL_law_1245 (by decide) (fun cx29 => ?_) (fun h9 => absurd (by decide) h9)
    refine lv_iinc (v := 7) (lv' := [(4, .int 7), (3, .ref out), (2, .ref (ma 0)), (1, .ref (qa 0)), (0, .ref b)]) hx hb dL_law_1487 hl (k := 0) rfl (by decide) (by decide) rfl (fun ls hl => ?_)
    refine lv_goto (tgt := 23) hx hb dL_law_1490 (by decide) ?_
    refine lv_iload hx hb dL_law_23 (lv_at hl 0 rfl) ?_
    refine lv_aload_n hx hb dL_law_25 rfl (lv_at hl 4 rfl) ?_
    refine va_slen hx hb hX hbl hbA hS dL_law_26 ?_
    refine p_topI (v := 7) (by decide) ?_
    refine lv_bipush (v := 7) hx hb dL_law_27 (by decide) ?_
    refine lv_isub hx hb dL_law_29 ?_
    refine p_topI (v := 0) (by decide) ?_
    refine lv_icmp_gt (tgt := 1493) hx hb dL_law_30 (by decide) (fun cx30 => ?_) (fun h9 => absurd (by decide) h9)
    refine lv_iconst (v := 1) hx hb dL_law_1493 (by decide) ?_
    refine va_forget (fun q hq => hAf _ (hS.2.2 q hq)) ?_
    refine W.widen (k := 600002) (n := 7302232) (by decide) (by decide) ?_
    exact lw_ret hx hb hr hlocks dL_law_1494
  · skip
    refine lv_aload_n hx hb dL_law_1225 rfl (lv_at hl 3 rfl) ?_
    refine lv_aload_n hx hb dL_law_1226 rfl (lv_at hl 4 rfl) ?_
    refine lv_iload hx hb dL_law_1227 (lv_at hl 0 rfl) ?_
    refine lv_iconst (v := 1) hx hb dL_law_1229 (by decide) ?_
    refine lv_iadd hx hb dL_law_1230 ?_
    refine p_topI (v := 1) (by decide) ?_
    refine va_sld hx hb hX hbl hbA hS (show ¬ (_ ∨ _) by decide) dL_law_1231 ?_
    refine p_topI (v := 1) cC ?_
    refine p_ji (wr := [((ma 0), .inr (10, [.int 0, .ref (ma 1), .int 0, .int 0, .ref (ma 4), .ref (ma 5), .ref (ma 6), .int 0, .int 0, .ref (ma 9), .ref (ma 10), .ref (ma 11), .ref (ma 12), .int 0, .ref (ma 14), .ref (ma 15), .int 0, .int 0, .ref (ma 18), .ref (ma 19), .ref (ma 20), .ref (ma 21), .ref (ma 22), .int 0, .ref (ma 24), .int 0, .ref (ma 26), .int 0, .int 0, .int 0, .int 0, .ref (ma 31), .ref (ma 32), .ref (ma 33), .ref (ma 34), .ref (ma 35), .int 0, .int 0, .ref (ma 38), .ref (ma 39), .ref (ma 40), .long 0])), ((ma 10), .inl (k 1, 220, .inl (mg 10))), ((ma 22), .inl (k 1, 1320, .inl (mg 22))), ((ma 33), .inl (k 1, 14400, .inl (mg 33)))]) (va_runV (As := [.int 1]) (rest := []) ⟨hx, hb, hml, hown, hts⟩ (c_found_1 l D k _ qa) (cwV 1 hts lg_88 rfl rfl rfl (by decide +kernel) ⟨Nat.le_of_ble_eq_true rfl, Nat.le_of_ble_eq_true rfl⟩) (pV hK hN hP hD [0, 7, 2, 3, 4, 5, 6, 1] rfl (by decide) rfl 0 rfl rfl) rfl rfl hl.1 rfl (lv_room (Nat.le_of_ble_eq_true rfl)) dL_law_1232 ⟨by decide, by decide⟩) hP hD hS hA [0, 7, 2, 3, 4, 5, 6, 1] [8, 9, 10, 11] rfl rfl (by decide) (by decide) (fun rx33 ux31 H locs wx32 hP hD hS => ?_)
    have hx34 : rx33 = (-1) := wx32
    subst hx34
    have hP : va_P D vwCl [((ma 0), .inr (10, [.int 0, .ref (ma 1), .int 0, .int 0, .ref (ma 4), .ref (ma 5), .ref (ma 6), .int 0, .int 0, .ref (ma 9), .ref (ma 10), .ref (ma 11), .ref (ma 12), .int 0, .ref (ma 14), .ref (ma 15), .int 0, .int 0, .ref (ma 18), .ref (ma 19), .ref (ma 20), .ref (ma 21), .ref (ma 22), .int 0, .ref (ma 24), .int 0, .ref (ma 26), .int 0, .int 0, .int 0, .int 0, .ref (ma 31), .ref (ma 32), .ref (ma 33), .ref (ma 34), .ref (ma 35), .int 0, .int 0, .ref (ma 38), .ref (ma 39), .ref (ma 40), .long 0])), ((ma 10), .inl (k 1, 220, .inl (mg 10))), ((ma 22), .inl (k 1, 1320, .inl (mg 22))), ((ma 33), .inl (k 1, 14400, .inl (mg 33)))] H := hP
    have hD : va_D A [((ma 0), .inr (10, [.int 0, .ref (ma 1), .int 0, .int 0, .ref (ma 4), .ref (ma 5), .ref (ma 6), .int 0, .int 0, .ref (ma 9), .ref (ma 10), .ref (ma 11), .ref (ma 12), .int 0, .ref (ma 14), .ref (ma 15), .int 0, .int 0, .ref (ma 18), .ref (ma 19), .ref (ma 20), .ref (ma 21), .ref (ma 22), .int 0, .ref (ma 24), .int 0, .ref (ma 26), .int 0, .int 0, .int 0, .int 0, .ref (ma 31), .ref (ma 32), .ref (ma 33), .ref (ma 34), .ref (ma 35), .int 0, .int 0, .ref (ma 38), .ref (ma 39), .ref (ma 40), .long 0])), ((ma 10), .inl (k 1, 220, .inl (mg 10))), ((ma 22), .inl (k 1, 1320, .inl (mg 22))), ((ma 33), .inl (k 1, 14400, .inl (mg 33)))] := hD
    refine lv_aload_n hx hb dL_law_1235 rfl (lv_at hl 2 rfl) ?_
    refine lv_aload_n hx hb dL_law_1236 rfl (lv_at hl 4 rfl) ?_
    refine lv_iload hx hb dL_law_1237 (lv_at hl 0 rfl) ?_
    refine lv_iconst (v := 1) hx hb dL_law_1239 (by decide) ?_
    refine lv_iadd hx hb dL_law_1240 ?_
    refine p_topI (v := 1) (by decide) ?_
    refine va_sld hx hb hX hbl hbA hS (show ¬ (_ ∨ _) by decide) dL_law_1241 ?_
    refine p_topI (v := 1) cC ?_
    refine p_ji (wr := []) (va_runV (As := [.int 1]) (rest := [.int (-1)]) ⟨hx, hb, hml, hown, hts⟩ (c_m_found_1 l D k _ ma mg hl0 hs26) (cwV 1 hts lg_89 rfl rfl rfl (by decide +kernel) ⟨Nat.le_of_ble_eq_true rfl, Nat.le_of_ble_eq_true rfl⟩) (pV hK hN hP hD [0, 1, 2, 3] rfl (by decide) rfl 0 rfl rfl) rfl rfl hl.1 rfl (lv_room (Nat.le_of_ble_eq_true rfl)) dL_law_1242 ⟨by decide, by decide⟩) hP hD hS hA [0, 1, 2, 3] [] rfl rfl (by decide) (by decide) (fun rx37 ux35 H locs wx36 hP hD hS => ?_)
    have hx38 : rx37 = (-1) := wx36
    subst hx38
    have hP : va_P D vwCl [] H := hP
    have hD : va_D A [] := hD
    refine lv_icmp_eq (tgt := 1487) hx hb dL_law_1245 (by decide) (fun cx39 => ?_) (fun h9 => absurd (by decide) h9)
    refine lv_iinc (v := 7) (lv' := [(4, .int 7), (3, .ref out), (2, .ref (ma 0)), (1, .ref (qa 0)), (0, .ref b)]) hx hb dL_law_1487 hl (k := 0) rfl (by decide) (by decide) rfl (fun ls hl => ?_)
    refine lv_goto (tgt := 23) hx hb dL_law_1490 (by decide) ?_
    refine lv_iload hx hb dL_law_23 (lv_at hl 0 rfl) ?_
    refine lv_aload_n hx hb dL_law_25 rfl (lv_at hl 4 rfl) ?_
    refine va_slen hx hb hX hbl hbA hS dL_law_26 ?_
    refine p_topI (v := 7) (by decide) ?_
    refine lv_bipush (v := 7) hx hb dL_law_27 (by decide) ?_
    refine lv_isub hx hb dL_law_29 ?_
    refine p_topI (v := 0) (by decide) ?_
    refine lv_icmp_gt (tgt := 1493) hx hb dL_law_30 (by decide) (fun cx40 => ?_) (fun h9 => absurd (by decide) h9)
    refine lv_iconst (v := 1) hx hb dL_law_1493 (by decide) ?_
    refine va_forget (fun q hq => hAf _ (hS.2.2 q hq)) ?_
    refine W.widen (k := 600002) (n := 7302232) (by decide) (by decide) ?_
    exact lw_ret hx hb hr hlocks dL_law_1494
set_option maxHeartbeats 4000000 in
set_option maxRecDepth 100000 in
theorem lc_rests {p : Program} {e : Env} {s : State} {m : MethodId} {below : List Frame} {meth : Method} {c : Code} (l : Launch) {b : Nat} {xs : Nat → Int32} (C0 : lw_At p s m meth c b 7 xs) (hts : ∀ w ∈ p_tbl, w.before #[Value.ref b] s = true) {D : va_G} {k : Nat → ClassId} (hK : va_K D vwCl (pT k) s) (hN : pN s) {A : Nat → Prop} (hA : ∀ q : Nat, s.heap.size ≤ q → A q) (hAf : ∀ q : Nat, A q → s.heap.size ≤ q) (qa ma : Nat → Nat) (gs mg : Nat → Nat → Int32) (out : Nat) (hf : p_mf mg) {H : Heap} {locs : List Loc} {ls : Array Slot} (hP : va_P D vwCl (p_big k qa ma gs mg) H) (hD : va_D A (p_big k qa ma gs mg)) (hS : va_S A s.heap H locs) (hl : lv_has ls 7 [(4, .int 0), (3, .ref out), (2, .ref (ma 0)), (1, .ref (qa 0)), (0, .ref b)]) : W p l e room_1 s m #[Value.ref b] below meth c H locs 265 37830 (lw_Z below #[Value.ref b] s) (F0 m 1250 ls []) := by
  obtain ⟨hx, hb, hr, hml, hown, -, hX, hbl, hlocks, hgv⟩ := C0
  obtain ⟨hl0, hl1, hl2, hs0, hs19, hs26, hn0, hm0, hm1, hm2, hm3⟩ := hf
  have hbA : ¬ A b := fun h => absurd (hAf b h) (Nat.not_le.mpr hbl)
  have hP := hP.sub (ws' := [((qa 0), .inr (9, [.ref (qa 1), .ref (qa 6), .ref (qa 9), .ref (qa 17), .ref (qa 18), .ref (qa 19), .ref (qa 20), .ref (qa 23), .ref (qa 25), .ref (qa 28), .ref (qa 29), .ref (qa 30), .ref (qa 31), .int 0, .int 0, .int 0])), ((qa 30), .inr (2, [.ref (qa 133), .ref (qa 134), .ref (qa 135), .ref (qa 136), .ref (qa 137), .ref (qa 138), .ref (qa 139), .int 0, .int 0, .int 0, .int 0, .int 0])), ((ma 0), .inr (10, [.int 0, .ref (ma 1), .int 0, .int 0, .ref (ma 4), .ref (ma 5), .ref (ma 6), .int 0, .int 0, .ref (ma 9), .ref (ma 10), .ref (ma 11), .ref (ma 12), .int 0, .ref (ma 14), .ref (ma 15), .int 0, .int 0, .ref (ma 18), .ref (ma 19), .ref (ma 20), .ref (ma 21), .ref (ma 22), .int 0, .ref (ma 24), .int 0, .ref (ma 26), .int 0, .int 0, .int 0, .int 0, .ref (ma 31), .ref (ma 32), .ref (ma 33), .ref (ma 34), .ref (ma 35), .int 0, .int 0, .ref (ma 38), .ref (ma 39), .ref (ma 40), .long 0])), ((ma 10), .inl (k 1, 220, .inl (mg 10)))]) [0, 30, 133, 137] rfl
  have hD := hD.sub (ws' := [((qa 0), .inr (9, [.ref (qa 1), .ref (qa 6), .ref (qa 9), .ref (qa 17), .ref (qa 18), .ref (qa 19), .ref (qa 20), .ref (qa 23), .ref (qa 25), .ref (qa 28), .ref (qa 29), .ref (qa 30), .ref (qa 31), .int 0, .int 0, .int 0])), ((qa 30), .inr (2, [.ref (qa 133), .ref (qa 134), .ref (qa 135), .ref (qa 136), .ref (qa 137), .ref (qa 138), .ref (qa 139), .int 0, .int 0, .int 0, .int 0, .int 0])), ((ma 0), .inr (10, [.int 0, .ref (ma 1), .int 0, .int 0, .ref (ma 4), .ref (ma 5), .ref (ma 6), .int 0, .int 0, .ref (ma 9), .ref (ma 10), .ref (ma 11), .ref (ma 12), .int 0, .ref (ma 14), .ref (ma 15), .int 0, .int 0, .ref (ma 18), .ref (ma 19), .ref (ma 20), .ref (ma 21), .ref (ma 22), .int 0, .ref (ma 24), .int 0, .ref (ma 26), .int 0, .int 0, .int 0, .int 0, .ref (ma 31), .ref (ma 32), .ref (ma 33), .ref (ma 34), .ref (ma 35), .int 0, .int 0, .ref (ma 38), .ref (ma 39), .ref (ma 40), .long 0])), ((ma 10), .inl (k 1, 220, .inl (mg 10)))]) [0, 30, 133, 137] (by decide) rfl
  refine lv_aload_n hx hb dL_law_1250 rfl (lv_at hl 3 rfl) ?_
  refine lv_aload_n hx hb dL_law_1251 rfl (lv_at hl 4 rfl) ?_
  refine lv_iload hx hb dL_law_1252 (lv_at hl 0 rfl) ?_
  refine lv_iconst (v := 1) hx hb dL_law_1254 (by decide) ?_
  refine lv_iadd hx hb dL_law_1255 ?_
  refine p_topI (v := 1) (by decide) ?_
  refine va_sld hx hb hX hbl hbA hS (show ¬ (_ ∨ _) by decide) dL_law_1256 ?_
  refine p_topI (v := (xs 1)) rfl ?_
  refine lv_aload_n hx hb dL_law_1257 rfl (lv_at hl 4 rfl) ?_
  refine lv_iload hx hb dL_law_1258 (lv_at hl 0 rfl) ?_
  refine lv_iconst (v := 2) hx hb dL_law_1260 (by decide) ?_
  refine lv_iadd hx hb dL_law_1261 ?_
  refine p_topI (v := 2) (by decide) ?_
  refine va_sld hx hb hX hbl hbA hS (show ¬ (_ ∨ _) by decide) dL_law_1262 ?_
  refine p_topI (v := (xs 2)) rfl ?_
  refine lv_aload_n hx hb dL_law_1263 rfl (lv_at hl 4 rfl) ?_
  refine lv_iload hx hb dL_law_1264 (lv_at hl 0 rfl) ?_
  refine lv_iconst (v := 3) hx hb dL_law_1266 (by decide) ?_
  refine lv_iadd hx hb dL_law_1267 ?_
  refine p_topI (v := 3) (by decide) ?_
  refine va_sld hx hb hX hbl hbA hS (show ¬ (_ ∨ _) by decide) dL_law_1268 ?_
  refine p_topI (v := (xs 3)) rfl ?_
  refine lv_aload_n hx hb dL_law_1269 rfl (lv_at hl 4 rfl) ?_
  refine lv_iload hx hb dL_law_1270 (lv_at hl 0 rfl) ?_
  refine lv_iconst (v := 4) hx hb dL_law_1272 (by decide) ?_
  refine lv_iadd hx hb dL_law_1273 ?_
  refine p_topI (v := 4) (by decide) ?_
  refine va_sld hx hb hX hbl hbA hS (show ¬ (_ ∨ _) by decide) dL_law_1274 ?_
  refine p_topI (v := (xs 4)) rfl ?_
  refine p_ji (wr := [((ma 0), .inr (10, [.int 0, .ref (ma 1), .int 0, .int 0, .ref (ma 4), .ref (ma 5), .ref (ma 6), .int 0, .int 0, .ref (ma 9), .ref (ma 10), .ref (ma 11), .ref (ma 12), .int 0, .ref (ma 14), .ref (ma 15), .int 0, .int 0, .ref (ma 18), .ref (ma 19), .ref (ma 20), .ref (ma 21), .ref (ma 22), .int 0, .ref (ma 24), .int 0, .ref (ma 26), .int 0, .int 0, .int 0, .int 0, .ref (ma 31), .ref (ma 32), .ref (ma 33), .ref (ma 34), .ref (ma 35), .int 0, .int 0, .ref (ma 38), .ref (ma 39), .ref (ma 40), .long 0])), ((ma 10), .inl (k 1, 220, .inl (mg 10)))]) (va_runV (As := [.int (xs 1), .int (xs 2), .int (xs 3), .int (xs 4)]) (rest := []) ⟨hx, hb, hml, hown, hts⟩ (c_rests l D k _ qa (xs 1) (xs 2) (xs 3) (xs 4)) (cwV 4 hts lg_90 rfl rfl rfl (by decide +kernel) ⟨Nat.le_of_ble_eq_true rfl, Nat.le_of_ble_eq_true rfl⟩) (pV hK hN hP hD [0, 1] rfl (by decide) rfl 0 rfl rfl) rfl rfl hl.1 rfl (lv_room (Nat.le_of_ble_eq_true rfl)) dL_law_1275 ⟨by decide, by decide⟩) hP hD hS hA [0, 1] [2, 3] rfl rfl (by decide) (by decide) (fun rx3 ux1 H locs wx2 hP hD hS => ?_)
  have hx4 : rx3 = (-1) := wx2
  subst hx4
  have hP : va_P D vwCl [((ma 0), .inr (10, [.int 0, .ref (ma 1), .int 0, .int 0, .ref (ma 4), .ref (ma 5), .ref (ma 6), .int 0, .int 0, .ref (ma 9), .ref (ma 10), .ref (ma 11), .ref (ma 12), .int 0, .ref (ma 14), .ref (ma 15), .int 0, .int 0, .ref (ma 18), .ref (ma 19), .ref (ma 20), .ref (ma 21), .ref (ma 22), .int 0, .ref (ma 24), .int 0, .ref (ma 26), .int 0, .int 0, .int 0, .int 0, .ref (ma 31), .ref (ma 32), .ref (ma 33), .ref (ma 34), .ref (ma 35), .int 0, .int 0, .ref (ma 38), .ref (ma 39), .ref (ma 40), .long 0])), ((ma 10), .inl (k 1, 220, .inl (mg 10)))] H := hP
  have hD : va_D A [((ma 0), .inr (10, [.int 0, .ref (ma 1), .int 0, .int 0, .ref (ma 4), .ref (ma 5), .ref (ma 6), .int 0, .int 0, .ref (ma 9), .ref (ma 10), .ref (ma 11), .ref (ma 12), .int 0, .ref (ma 14), .ref (ma 15), .int 0, .int 0, .ref (ma 18), .ref (ma 19), .ref (ma 20), .ref (ma 21), .ref (ma 22), .int 0, .ref (ma 24), .int 0, .ref (ma 26), .int 0, .int 0, .int 0, .int 0, .ref (ma 31), .ref (ma 32), .ref (ma 33), .ref (ma 34), .ref (ma 35), .int 0, .int 0, .ref (ma 38), .ref (ma 39), .ref (ma 40), .long 0])), ((ma 10), .inl (k 1, 220, .inl (mg 10)))] := hD
  refine lv_aload_n hx hb dL_law_1278 rfl (lv_at hl 2 rfl) ?_
  refine lv_aload_n hx hb dL_law_1279 rfl (lv_at hl 4 rfl) ?_
  refine lv_iload hx hb dL_law_1280 (lv_at hl 0 rfl) ?_
  refine lv_iconst (v := 1) hx hb dL_law_1282 (by decide) ?_
  refine lv_iadd hx hb dL_law_1283 ?_
  refine p_topI (v := 1) (by decide) ?_
  refine va_sld hx hb hX hbl hbA hS (show ¬ (_ ∨ _) by decide) dL_law_1284 ?_
  refine p_topI (v := (xs 1)) rfl ?_
  refine lv_aload_n hx hb dL_law_1285 rfl (lv_at hl 4 rfl) ?_
  refine lv_iload hx hb dL_law_1286 (lv_at hl 0 rfl) ?_
  refine lv_iconst (v := 2) hx hb dL_law_1288 (by decide) ?_
  refine lv_iadd hx hb dL_law_1289 ?_
  refine p_topI (v := 2) (by decide) ?_
  refine va_sld hx hb hX hbl hbA hS (show ¬ (_ ∨ _) by decide) dL_law_1290 ?_
  refine p_topI (v := (xs 2)) rfl ?_
  refine lv_aload_n hx hb dL_law_1291 rfl (lv_at hl 4 rfl) ?_
  refine lv_iload hx hb dL_law_1292 (lv_at hl 0 rfl) ?_
  refine lv_iconst (v := 3) hx hb dL_law_1294 (by decide) ?_
  refine lv_iadd hx hb dL_law_1295 ?_
  refine p_topI (v := 3) (by decide) ?_
  refine va_sld hx hb hX hbl hbA hS (show ¬ (_ ∨ _) by decide) dL_law_1296 ?_
  refine p_topI (v := (xs 3)) rfl ?_
  refine lv_aload_n hx hb dL_law_1297 rfl (lv_at hl 4 rfl) ?_
  refine lv_iload hx hb dL_law_1298 (lv_at hl 0 rfl) ?_
  refine lv_iconst (v := 4) hx hb dL_law_1300 (by decide) ?_
  refine lv_iadd hx hb dL_law_1301 ?_
  refine p_topI (v := 4) (by decide) ?_
  refine va_sld hx hb hX hbl hbA hS (show ¬ (_ ∨ _) by decide) dL_law_1302 ?_
  refine p_topI (v := (xs 4)) rfl ?_
  refine p_ji (wr := []) (va_runV (As := [.int (xs 1), .int (xs 2), .int (xs 3), .int (xs 4)]) (rest := [.int (-1)]) ⟨hx, hb, hml, hown, hts⟩ (c_m_rests l D k _ ma mg (xs 1) (xs 2) (xs 3) (xs 4) hl0) (cwV 4 hts lg_91 rfl rfl rfl (by decide +kernel) ⟨Nat.le_of_ble_eq_true rfl, Nat.le_of_ble_eq_true rfl⟩) (pV hK hN hP hD [0, 1] rfl (by decide) rfl 0 rfl rfl) rfl rfl hl.1 rfl (lv_room (Nat.le_of_ble_eq_true rfl)) dL_law_1303 ⟨by decide, by decide⟩) hP hD hS hA [0, 1] [] rfl rfl (by decide) (by decide) (fun rx7 ux5 H locs wx6 hP hD hS => ?_)
  have hx8 : rx7 = (-1) := wx6
  subst hx8
  have hP : va_P D vwCl [] H := hP
  have hD : va_D A [] := hD
  refine lv_icmp_eq (tgt := 1487) hx hb dL_law_1306 (by decide) (fun cx9 => ?_) (fun h9 => absurd (by decide) h9)
  refine lv_iinc (v := 7) (lv' := [(4, .int 7), (3, .ref out), (2, .ref (ma 0)), (1, .ref (qa 0)), (0, .ref b)]) hx hb dL_law_1487 hl (k := 0) rfl (by decide) (by decide) rfl (fun ls hl => ?_)
  refine lv_goto (tgt := 23) hx hb dL_law_1490 (by decide) ?_
  refine lv_iload hx hb dL_law_23 (lv_at hl 0 rfl) ?_
  refine lv_aload_n hx hb dL_law_25 rfl (lv_at hl 4 rfl) ?_
  refine va_slen hx hb hX hbl hbA hS dL_law_26 ?_
  refine p_topI (v := 7) (by decide) ?_
  refine lv_bipush (v := 7) hx hb dL_law_27 (by decide) ?_
  refine lv_isub hx hb dL_law_29 ?_
  refine p_topI (v := 0) (by decide) ?_
  refine lv_icmp_gt (tgt := 1493) hx hb dL_law_30 (by decide) (fun cx10 => ?_) (fun h9 => absurd (by decide) h9)
  refine lv_iconst (v := 1) hx hb dL_law_1493 (by decide) ?_
  refine va_forget (fun q hq => hAf _ (hS.2.2 q hq)) ?_
  refine W.widen (k := 600002) (n := 7302232) (by decide) (by decide) ?_
  exact lw_ret hx hb hr hlocks dL_law_1494
set_option maxHeartbeats 4000000 in
set_option maxRecDepth 100000 in
theorem lc_dams {p : Program} {e : Env} {s : State} {m : MethodId} {below : List Frame} {meth : Method} {c : Code} (l : Launch) {b : Nat} {xs : Nat → Int32} (C0 : lw_At p s m meth c b 7 xs) (hts : ∀ w ∈ p_tbl, w.before #[Value.ref b] s = true) {D : va_G} {k : Nat → ClassId} (hK : va_K D vwCl (pT k) s) (hN : pN s) {A : Nat → Prop} (hA : ∀ q : Nat, s.heap.size ≤ q → A q) (hAf : ∀ q : Nat, A q → s.heap.size ≤ q) (qa ma : Nat → Nat) (gs mg : Nat → Nat → Int32) (out : Nat) (hf : p_mf mg) {H : Heap} {locs : List Loc} {ls : Array Slot} (hP : va_P D vwCl (p_big k qa ma gs mg) H) (hD : va_D A (p_big k qa ma gs mg)) (hS : va_S A s.heap H locs) (hl : lv_has ls 7 [(4, .int 0), (3, .ref out), (2, .ref (ma 0)), (1, .ref (qa 0)), (0, .ref b)]) : W p l e room_1 s m #[Value.ref b] below meth c H locs 265 37830 (lw_Z below #[Value.ref b] s) (F0 m 1311 ls []) := by
  obtain ⟨hx, hb, hr, hml, hown, -, hX, hbl, hlocks, hgv⟩ := C0
  obtain ⟨hl0, hl1, hl2, hs0, hs19, hs26, hn0, hm0, hm1, hm2, hm3⟩ := hf
  have hbA : ¬ A b := fun h => absurd (hAf b h) (Nat.not_le.mpr hbl)
  have hP := hP.sub (ws' := [((qa 0), .inr (9, [.ref (qa 1), .ref (qa 6), .ref (qa 9), .ref (qa 17), .ref (qa 18), .ref (qa 19), .ref (qa 20), .ref (qa 23), .ref (qa 25), .ref (qa 28), .ref (qa 29), .ref (qa 30), .ref (qa 31), .int 0, .int 0, .int 0])), ((qa 30), .inr (2, [.ref (qa 133), .ref (qa 134), .ref (qa 135), .ref (qa 136), .ref (qa 137), .ref (qa 138), .ref (qa 139), .int 0, .int 0, .int 0, .int 0, .int 0])), ((ma 0), .inr (10, [.int 0, .ref (ma 1), .int 0, .int 0, .ref (ma 4), .ref (ma 5), .ref (ma 6), .int 0, .int 0, .ref (ma 9), .ref (ma 10), .ref (ma 11), .ref (ma 12), .int 0, .ref (ma 14), .ref (ma 15), .int 0, .int 0, .ref (ma 18), .ref (ma 19), .ref (ma 20), .ref (ma 21), .ref (ma 22), .int 0, .ref (ma 24), .int 0, .ref (ma 26), .int 0, .int 0, .int 0, .int 0, .ref (ma 31), .ref (ma 32), .ref (ma 33), .ref (ma 34), .ref (ma 35), .int 0, .int 0, .ref (ma 38), .ref (ma 39), .ref (ma 40), .long 0])), ((ma 10), .inl (k 1, 220, .inl (mg 10)))]) [0, 30, 133, 137] rfl
  have hD := hD.sub (ws' := [((qa 0), .inr (9, [.ref (qa 1), .ref (qa 6), .ref (qa 9), .ref (qa 17), .ref (qa 18), .ref (qa 19), .ref (qa 20), .ref (qa 23), .ref (qa 25), .ref (qa 28), .ref (qa 29), .ref (qa 30), .ref (qa 31), .int 0, .int 0, .int 0])), ((qa 30), .inr (2, [.ref (qa 133), .ref (qa 134), .ref (qa 135), .ref (qa 136), .ref (qa 137), .ref (qa 138), .ref (qa 139), .int 0, .int 0, .int 0, .int 0, .int 0])), ((ma 0), .inr (10, [.int 0, .ref (ma 1), .int 0, .int 0, .ref (ma 4), .ref (ma 5), .ref (ma 6), .int 0, .int 0, .ref (ma 9), .ref (ma 10), .ref (ma 11), .ref (ma 12), .int 0, .ref (ma 14), .ref (ma 15), .int 0, .int 0, .ref (ma 18), .ref (ma 19), .ref (ma 20), .ref (ma 21), .ref (ma 22), .int 0, .ref (ma 24), .int 0, .ref (ma 26), .int 0, .int 0, .int 0, .int 0, .ref (ma 31), .ref (ma 32), .ref (ma 33), .ref (ma 34), .ref (ma 35), .int 0, .int 0, .ref (ma 38), .ref (ma 39), .ref (ma 40), .long 0])), ((ma 10), .inl (k 1, 220, .inl (mg 10)))]) [0, 30, 133, 137] (by decide) rfl
  refine lv_aload_n hx hb dL_law_1311 rfl (lv_at hl 3 rfl) ?_
  refine lv_aload_n hx hb dL_law_1312 rfl (lv_at hl 4 rfl) ?_
  refine lv_iload hx hb dL_law_1313 (lv_at hl 0 rfl) ?_
  refine lv_iconst (v := 1) hx hb dL_law_1315 (by decide) ?_
  refine lv_iadd hx hb dL_law_1316 ?_
  refine p_topI (v := 1) (by decide) ?_
  refine va_sld hx hb hX hbl hbA hS (show ¬ (_ ∨ _) by decide) dL_law_1317 ?_
  refine p_topI (v := (xs 1)) rfl ?_
  refine lv_aload_n hx hb dL_law_1318 rfl (lv_at hl 4 rfl) ?_
  refine lv_iload hx hb dL_law_1319 (lv_at hl 0 rfl) ?_
  refine lv_iconst (v := 2) hx hb dL_law_1321 (by decide) ?_
  refine lv_iadd hx hb dL_law_1322 ?_
  refine p_topI (v := 2) (by decide) ?_
  refine va_sld hx hb hX hbl hbA hS (show ¬ (_ ∨ _) by decide) dL_law_1323 ?_
  refine p_topI (v := (xs 2)) rfl ?_
  refine lv_aload_n hx hb dL_law_1324 rfl (lv_at hl 4 rfl) ?_
  refine lv_iload hx hb dL_law_1325 (lv_at hl 0 rfl) ?_
  refine lv_iconst (v := 3) hx hb dL_law_1327 (by decide) ?_
  refine lv_iadd hx hb dL_law_1328 ?_
  refine p_topI (v := 3) (by decide) ?_
  refine va_sld hx hb hX hbl hbA hS (show ¬ (_ ∨ _) by decide) dL_law_1329 ?_
  refine p_topI (v := (xs 3)) rfl ?_
  refine p_ji (wr := [((ma 0), .inr (10, [.int 0, .ref (ma 1), .int 0, .int 0, .ref (ma 4), .ref (ma 5), .ref (ma 6), .int 0, .int 0, .ref (ma 9), .ref (ma 10), .ref (ma 11), .ref (ma 12), .int 0, .ref (ma 14), .ref (ma 15), .int 0, .int 0, .ref (ma 18), .ref (ma 19), .ref (ma 20), .ref (ma 21), .ref (ma 22), .int 0, .ref (ma 24), .int 0, .ref (ma 26), .int 0, .int 0, .int 0, .int 0, .ref (ma 31), .ref (ma 32), .ref (ma 33), .ref (ma 34), .ref (ma 35), .int 0, .int 0, .ref (ma 38), .ref (ma 39), .ref (ma 40), .long 0])), ((ma 10), .inl (k 1, 220, .inl (mg 10)))]) (va_runV (As := [.int (xs 1), .int (xs 2), .int (xs 3)]) (rest := []) ⟨hx, hb, hml, hown, hts⟩ (c_dams l D k _ qa (xs 1) (xs 2) (xs 3)) (cwV 3 hts lg_92 rfl rfl rfl (by decide +kernel) ⟨Nat.le_of_ble_eq_true rfl, Nat.le_of_ble_eq_true rfl⟩) (pV hK hN hP hD [0, 1] rfl (by decide) rfl 0 rfl rfl) rfl rfl hl.1 rfl (lv_room (Nat.le_of_ble_eq_true rfl)) dL_law_1330 ⟨by decide, by decide⟩) hP hD hS hA [0, 1] [2, 3] rfl rfl (by decide) (by decide) (fun rx3 ux1 H locs wx2 hP hD hS => ?_)
  have hx4 : rx3 = (-1) := wx2
  subst hx4
  have hP : va_P D vwCl [((ma 0), .inr (10, [.int 0, .ref (ma 1), .int 0, .int 0, .ref (ma 4), .ref (ma 5), .ref (ma 6), .int 0, .int 0, .ref (ma 9), .ref (ma 10), .ref (ma 11), .ref (ma 12), .int 0, .ref (ma 14), .ref (ma 15), .int 0, .int 0, .ref (ma 18), .ref (ma 19), .ref (ma 20), .ref (ma 21), .ref (ma 22), .int 0, .ref (ma 24), .int 0, .ref (ma 26), .int 0, .int 0, .int 0, .int 0, .ref (ma 31), .ref (ma 32), .ref (ma 33), .ref (ma 34), .ref (ma 35), .int 0, .int 0, .ref (ma 38), .ref (ma 39), .ref (ma 40), .long 0])), ((ma 10), .inl (k 1, 220, .inl (mg 10)))] H := hP
  have hD : va_D A [((ma 0), .inr (10, [.int 0, .ref (ma 1), .int 0, .int 0, .ref (ma 4), .ref (ma 5), .ref (ma 6), .int 0, .int 0, .ref (ma 9), .ref (ma 10), .ref (ma 11), .ref (ma 12), .int 0, .ref (ma 14), .ref (ma 15), .int 0, .int 0, .ref (ma 18), .ref (ma 19), .ref (ma 20), .ref (ma 21), .ref (ma 22), .int 0, .ref (ma 24), .int 0, .ref (ma 26), .int 0, .int 0, .int 0, .int 0, .ref (ma 31), .ref (ma 32), .ref (ma 33), .ref (ma 34), .ref (ma 35), .int 0, .int 0, .ref (ma 38), .ref (ma 39), .ref (ma 40), .long 0])), ((ma 10), .inl (k 1, 220, .inl (mg 10)))] := hD
  refine lv_aload_n hx hb dL_law_1333 rfl (lv_at hl 2 rfl) ?_
  refine lv_aload_n hx hb dL_law_1334 rfl (lv_at hl 4 rfl) ?_
  refine lv_iload hx hb dL_law_1335 (lv_at hl 0 rfl) ?_
  refine lv_iconst (v := 1) hx hb dL_law_1337 (by decide) ?_
  refine lv_iadd hx hb dL_law_1338 ?_
  refine p_topI (v := 1) (by decide) ?_
  refine va_sld hx hb hX hbl hbA hS (show ¬ (_ ∨ _) by decide) dL_law_1339 ?_
  refine p_topI (v := (xs 1)) rfl ?_
  refine lv_aload_n hx hb dL_law_1340 rfl (lv_at hl 4 rfl) ?_
  refine lv_iload hx hb dL_law_1341 (lv_at hl 0 rfl) ?_
  refine lv_iconst (v := 2) hx hb dL_law_1343 (by decide) ?_
  refine lv_iadd hx hb dL_law_1344 ?_
  refine p_topI (v := 2) (by decide) ?_
  refine va_sld hx hb hX hbl hbA hS (show ¬ (_ ∨ _) by decide) dL_law_1345 ?_
  refine p_topI (v := (xs 2)) rfl ?_
  refine lv_aload_n hx hb dL_law_1346 rfl (lv_at hl 4 rfl) ?_
  refine lv_iload hx hb dL_law_1347 (lv_at hl 0 rfl) ?_
  refine lv_iconst (v := 3) hx hb dL_law_1349 (by decide) ?_
  refine lv_iadd hx hb dL_law_1350 ?_
  refine p_topI (v := 3) (by decide) ?_
  refine va_sld hx hb hX hbl hbA hS (show ¬ (_ ∨ _) by decide) dL_law_1351 ?_
  refine p_topI (v := (xs 3)) rfl ?_
  refine p_ji (wr := []) (va_runV (As := [.int (xs 1), .int (xs 2), .int (xs 3)]) (rest := [.int (-1)]) ⟨hx, hb, hml, hown, hts⟩ (c_m_dams l D k _ ma mg (xs 1) (xs 2) (xs 3) hl0) (cwV 3 hts lg_93 rfl rfl rfl (by decide +kernel) ⟨Nat.le_of_ble_eq_true rfl, Nat.le_of_ble_eq_true rfl⟩) (pV hK hN hP hD [0, 1] rfl (by decide) rfl 0 rfl rfl) rfl rfl hl.1 rfl (lv_room (Nat.le_of_ble_eq_true rfl)) dL_law_1352 ⟨by decide, by decide⟩) hP hD hS hA [0, 1] [] rfl rfl (by decide) (by decide) (fun rx7 ux5 H locs wx6 hP hD hS => ?_)
  have hx8 : rx7 = (-1) := wx6
  subst hx8
  have hP : va_P D vwCl [] H := hP
  have hD : va_D A [] := hD
  refine lv_icmp_eq (tgt := 1487) hx hb dL_law_1355 (by decide) (fun cx9 => ?_) (fun h9 => absurd (by decide) h9)
  refine lv_iinc (v := 7) (lv' := [(4, .int 7), (3, .ref out), (2, .ref (ma 0)), (1, .ref (qa 0)), (0, .ref b)]) hx hb dL_law_1487 hl (k := 0) rfl (by decide) (by decide) rfl (fun ls hl => ?_)
  refine lv_goto (tgt := 23) hx hb dL_law_1490 (by decide) ?_
  refine lv_iload hx hb dL_law_23 (lv_at hl 0 rfl) ?_
  refine lv_aload_n hx hb dL_law_25 rfl (lv_at hl 4 rfl) ?_
  refine va_slen hx hb hX hbl hbA hS dL_law_26 ?_
  refine p_topI (v := 7) (by decide) ?_
  refine lv_bipush (v := 7) hx hb dL_law_27 (by decide) ?_
  refine lv_isub hx hb dL_law_29 ?_
  refine p_topI (v := 0) (by decide) ?_
  refine lv_icmp_gt (tgt := 1493) hx hb dL_law_30 (by decide) (fun cx10 => ?_) (fun h9 => absurd (by decide) h9)
  refine lv_iconst (v := 1) hx hb dL_law_1493 (by decide) ?_
  refine va_forget (fun q hq => hAf _ (hS.2.2 q hq)) ?_
  refine W.widen (k := 600002) (n := 7302232) (by decide) (by decide) ?_
  exact lw_ret hx hb hr hlocks dL_law_1494
set_option maxHeartbeats 4000000 in
set_option maxRecDepth 100000 in
theorem lc_centuries {p : Program} {e : Env} {s : State} {m : MethodId} {below : List Frame} {meth : Method} {c : Code} (l : Launch) {b : Nat} {xs : Nat → Int32} (C0 : lw_At p s m meth c b 7 xs) (hts : ∀ w ∈ p_tbl, w.before #[Value.ref b] s = true) {D : va_G} {k : Nat → ClassId} (hK : va_K D vwCl (pT k) s) (hN : pN s) {A : Nat → Prop} (hA : ∀ q : Nat, s.heap.size ≤ q → A q) (hAf : ∀ q : Nat, A q → s.heap.size ≤ q) (qa ma : Nat → Nat) (gs mg : Nat → Nat → Int32) (out : Nat) (hf : p_mf mg) {H : Heap} {locs : List Loc} {ls : Array Slot} (hP : va_P D vwCl (p_big k qa ma gs mg) H) (hD : va_D A (p_big k qa ma gs mg)) (hS : va_S A s.heap H locs) (hl : lv_has ls 7 [(4, .int 0), (3, .ref out), (2, .ref (ma 0)), (1, .ref (qa 0)), (0, .ref b)]) : W p l e room_1 s m #[Value.ref b] below meth c H locs 265 37830 (lw_Z below #[Value.ref b] s) (F0 m 1360 ls []) := by
  obtain ⟨hx, hb, hr, hml, hown, -, hX, hbl, hlocks, hgv⟩ := C0
  obtain ⟨hl0, hl1, hl2, hs0, hs19, hs26, hn0, hm0, hm1, hm2, hm3⟩ := hf
  have hbA : ¬ A b := fun h => absurd (hAf b h) (Nat.not_le.mpr hbl)
  have hP := hP.sub (ws' := [((qa 0), .inr (9, [.ref (qa 1), .ref (qa 6), .ref (qa 9), .ref (qa 17), .ref (qa 18), .ref (qa 19), .ref (qa 20), .ref (qa 23), .ref (qa 25), .ref (qa 28), .ref (qa 29), .ref (qa 30), .ref (qa 31), .int 0, .int 0, .int 0])), ((qa 30), .inr (2, [.ref (qa 133), .ref (qa 134), .ref (qa 135), .ref (qa 136), .ref (qa 137), .ref (qa 138), .ref (qa 139), .int 0, .int 0, .int 0, .int 0, .int 0])), ((ma 0), .inr (10, [.int 0, .ref (ma 1), .int 0, .int 0, .ref (ma 4), .ref (ma 5), .ref (ma 6), .int 0, .int 0, .ref (ma 9), .ref (ma 10), .ref (ma 11), .ref (ma 12), .int 0, .ref (ma 14), .ref (ma 15), .int 0, .int 0, .ref (ma 18), .ref (ma 19), .ref (ma 20), .ref (ma 21), .ref (ma 22), .int 0, .ref (ma 24), .int 0, .ref (ma 26), .int 0, .int 0, .int 0, .int 0, .ref (ma 31), .ref (ma 32), .ref (ma 33), .ref (ma 34), .ref (ma 35), .int 0, .int 0, .ref (ma 38), .ref (ma 39), .ref (ma 40), .long 0])), ((ma 10), .inl (k 1, 220, .inl (mg 10)))]) [0, 30, 133, 137] rfl
  have hD := hD.sub (ws' := [((qa 0), .inr (9, [.ref (qa 1), .ref (qa 6), .ref (qa 9), .ref (qa 17), .ref (qa 18), .ref (qa 19), .ref (qa 20), .ref (qa 23), .ref (qa 25), .ref (qa 28), .ref (qa 29), .ref (qa 30), .ref (qa 31), .int 0, .int 0, .int 0])), ((qa 30), .inr (2, [.ref (qa 133), .ref (qa 134), .ref (qa 135), .ref (qa 136), .ref (qa 137), .ref (qa 138), .ref (qa 139), .int 0, .int 0, .int 0, .int 0, .int 0])), ((ma 0), .inr (10, [.int 0, .ref (ma 1), .int 0, .int 0, .ref (ma 4), .ref (ma 5), .ref (ma 6), .int 0, .int 0, .ref (ma 9), .ref (ma 10), .ref (ma 11), .ref (ma 12), .int 0, .ref (ma 14), .ref (ma 15), .int 0, .int 0, .ref (ma 18), .ref (ma 19), .ref (ma 20), .ref (ma 21), .ref (ma 22), .int 0, .ref (ma 24), .int 0, .ref (ma 26), .int 0, .int 0, .int 0, .int 0, .ref (ma 31), .ref (ma 32), .ref (ma 33), .ref (ma 34), .ref (ma 35), .int 0, .int 0, .ref (ma 38), .ref (ma 39), .ref (ma 40), .long 0])), ((ma 10), .inl (k 1, 220, .inl (mg 10)))]) [0, 30, 133, 137] (by decide) rfl
  refine lv_aload_n hx hb dL_law_1360 rfl (lv_at hl 3 rfl) ?_
  refine lv_aload_n hx hb dL_law_1361 rfl (lv_at hl 4 rfl) ?_
  refine lv_iload hx hb dL_law_1362 (lv_at hl 0 rfl) ?_
  refine lv_iconst (v := 1) hx hb dL_law_1364 (by decide) ?_
  refine lv_iadd hx hb dL_law_1365 ?_
  refine p_topI (v := 1) (by decide) ?_
  refine va_sld hx hb hX hbl hbA hS (show ¬ (_ ∨ _) by decide) dL_law_1366 ?_
  refine p_topI (v := (xs 1)) rfl ?_
  refine lv_aload_n hx hb dL_law_1367 rfl (lv_at hl 4 rfl) ?_
  refine lv_iload hx hb dL_law_1368 (lv_at hl 0 rfl) ?_
  refine lv_iconst (v := 2) hx hb dL_law_1370 (by decide) ?_
  refine lv_iadd hx hb dL_law_1371 ?_
  refine p_topI (v := 2) (by decide) ?_
  refine va_sld hx hb hX hbl hbA hS (show ¬ (_ ∨ _) by decide) dL_law_1372 ?_
  refine p_topI (v := (xs 2)) rfl ?_
  refine lv_aload_n hx hb dL_law_1373 rfl (lv_at hl 4 rfl) ?_
  refine lv_iload hx hb dL_law_1374 (lv_at hl 0 rfl) ?_
  refine lv_iconst (v := 3) hx hb dL_law_1376 (by decide) ?_
  refine lv_iadd hx hb dL_law_1377 ?_
  refine p_topI (v := 3) (by decide) ?_
  refine va_sld hx hb hX hbl hbA hS (show ¬ (_ ∨ _) by decide) dL_law_1378 ?_
  refine p_topI (v := (xs 3)) rfl ?_
  refine p_ji (wr := [((ma 0), .inr (10, [.int 0, .ref (ma 1), .int 0, .int 0, .ref (ma 4), .ref (ma 5), .ref (ma 6), .int 0, .int 0, .ref (ma 9), .ref (ma 10), .ref (ma 11), .ref (ma 12), .int 0, .ref (ma 14), .ref (ma 15), .int 0, .int 0, .ref (ma 18), .ref (ma 19), .ref (ma 20), .ref (ma 21), .ref (ma 22), .int 0, .ref (ma 24), .int 0, .ref (ma 26), .int 0, .int 0, .int 0, .int 0, .ref (ma 31), .ref (ma 32), .ref (ma 33), .ref (ma 34), .ref (ma 35), .int 0, .int 0, .ref (ma 38), .ref (ma 39), .ref (ma 40), .long 0])), ((ma 10), .inl (k 1, 220, .inl (mg 10)))]) (va_runV (As := [.int (xs 1), .int (xs 2), .int (xs 3)]) (rest := []) ⟨hx, hb, hml, hown, hts⟩ (c_centuries l D k _ qa (xs 1) (xs 2) (xs 3)) (cwV 3 hts lg_94 rfl rfl rfl (by decide +kernel) ⟨Nat.le_of_ble_eq_true rfl, Nat.le_of_ble_eq_true rfl⟩) (pV hK hN hP hD [0, 1] rfl (by decide) rfl 0 rfl rfl) rfl rfl hl.1 rfl (lv_room (Nat.le_of_ble_eq_true rfl)) dL_law_1379 ⟨by decide, by decide⟩) hP hD hS hA [0, 1] [2, 3] rfl rfl (by decide) (by decide) (fun rx3 ux1 H locs wx2 hP hD hS => ?_)
  have hx4 : rx3 = (-1) := wx2
  subst hx4
  have hP : va_P D vwCl [((ma 0), .inr (10, [.int 0, .ref (ma 1), .int 0, .int 0, .ref (ma 4), .ref (ma 5), .ref (ma 6), .int 0, .int 0, .ref (ma 9), .ref (ma 10), .ref (ma 11), .ref (ma 12), .int 0, .ref (ma 14), .ref (ma 15), .int 0, .int 0, .ref (ma 18), .ref (ma 19), .ref (ma 20), .ref (ma 21), .ref (ma 22), .int 0, .ref (ma 24), .int 0, .ref (ma 26), .int 0, .int 0, .int 0, .int 0, .ref (ma 31), .ref (ma 32), .ref (ma 33), .ref (ma 34), .ref (ma 35), .int 0, .int 0, .ref (ma 38), .ref (ma 39), .ref (ma 40), .long 0])), ((ma 10), .inl (k 1, 220, .inl (mg 10)))] H := hP
  have hD : va_D A [((ma 0), .inr (10, [.int 0, .ref (ma 1), .int 0, .int 0, .ref (ma 4), .ref (ma 5), .ref (ma 6), .int 0, .int 0, .ref (ma 9), .ref (ma 10), .ref (ma 11), .ref (ma 12), .int 0, .ref (ma 14), .ref (ma 15), .int 0, .int 0, .ref (ma 18), .ref (ma 19), .ref (ma 20), .ref (ma 21), .ref (ma 22), .int 0, .ref (ma 24), .int 0, .ref (ma 26), .int 0, .int 0, .int 0, .int 0, .ref (ma 31), .ref (ma 32), .ref (ma 33), .ref (ma 34), .ref (ma 35), .int 0, .int 0, .ref (ma 38), .ref (ma 39), .ref (ma 40), .long 0])), ((ma 10), .inl (k 1, 220, .inl (mg 10)))] := hD
  refine lv_aload_n hx hb dL_law_1382 rfl (lv_at hl 2 rfl) ?_
  refine lv_aload_n hx hb dL_law_1383 rfl (lv_at hl 4 rfl) ?_
  refine lv_iload hx hb dL_law_1384 (lv_at hl 0 rfl) ?_
  refine lv_iconst (v := 1) hx hb dL_law_1386 (by decide) ?_
  refine lv_iadd hx hb dL_law_1387 ?_
  refine p_topI (v := 1) (by decide) ?_
  refine va_sld hx hb hX hbl hbA hS (show ¬ (_ ∨ _) by decide) dL_law_1388 ?_
  refine p_topI (v := (xs 1)) rfl ?_
  refine lv_aload_n hx hb dL_law_1389 rfl (lv_at hl 4 rfl) ?_
  refine lv_iload hx hb dL_law_1390 (lv_at hl 0 rfl) ?_
  refine lv_iconst (v := 2) hx hb dL_law_1392 (by decide) ?_
  refine lv_iadd hx hb dL_law_1393 ?_
  refine p_topI (v := 2) (by decide) ?_
  refine va_sld hx hb hX hbl hbA hS (show ¬ (_ ∨ _) by decide) dL_law_1394 ?_
  refine p_topI (v := (xs 2)) rfl ?_
  refine lv_aload_n hx hb dL_law_1395 rfl (lv_at hl 4 rfl) ?_
  refine lv_iload hx hb dL_law_1396 (lv_at hl 0 rfl) ?_
  refine lv_iconst (v := 3) hx hb dL_law_1398 (by decide) ?_
  refine lv_iadd hx hb dL_law_1399 ?_
  refine p_topI (v := 3) (by decide) ?_
  refine va_sld hx hb hX hbl hbA hS (show ¬ (_ ∨ _) by decide) dL_law_1400 ?_
  refine p_topI (v := (xs 3)) rfl ?_
  refine p_ji (wr := []) (va_runV (As := [.int (xs 1), .int (xs 2), .int (xs 3)]) (rest := [.int (-1)]) ⟨hx, hb, hml, hown, hts⟩ (c_m_centuries l D k _ ma mg (xs 1) (xs 2) (xs 3) hl0) (cwV 3 hts lg_95 rfl rfl rfl (by decide +kernel) ⟨Nat.le_of_ble_eq_true rfl, Nat.le_of_ble_eq_true rfl⟩) (pV hK hN hP hD [0, 1] rfl (by decide) rfl 0 rfl rfl) rfl rfl hl.1 rfl (lv_room (Nat.le_of_ble_eq_true rfl)) dL_law_1401 ⟨by decide, by decide⟩) hP hD hS hA [0, 1] [] rfl rfl (by decide) (by decide) (fun rx7 ux5 H locs wx6 hP hD hS => ?_)
  have hx8 : rx7 = (-1) := wx6
  subst hx8
  have hP : va_P D vwCl [] H := hP
  have hD : va_D A [] := hD
  refine lv_icmp_eq (tgt := 1487) hx hb dL_law_1404 (by decide) (fun cx9 => ?_) (fun h9 => absurd (by decide) h9)
  refine lv_iinc (v := 7) (lv' := [(4, .int 7), (3, .ref out), (2, .ref (ma 0)), (1, .ref (qa 0)), (0, .ref b)]) hx hb dL_law_1487 hl (k := 0) rfl (by decide) (by decide) rfl (fun ls hl => ?_)
  refine lv_goto (tgt := 23) hx hb dL_law_1490 (by decide) ?_
  refine lv_iload hx hb dL_law_23 (lv_at hl 0 rfl) ?_
  refine lv_aload_n hx hb dL_law_25 rfl (lv_at hl 4 rfl) ?_
  refine va_slen hx hb hX hbl hbA hS dL_law_26 ?_
  refine p_topI (v := 7) (by decide) ?_
  refine lv_bipush (v := 7) hx hb dL_law_27 (by decide) ?_
  refine lv_isub hx hb dL_law_29 ?_
  refine p_topI (v := 0) (by decide) ?_
  refine lv_icmp_gt (tgt := 1493) hx hb dL_law_30 (by decide) (fun cx10 => ?_) (fun h9 => absurd (by decide) h9)
  refine lv_iconst (v := 1) hx hb dL_law_1493 (by decide) ?_
  refine va_forget (fun q hq => hAf _ (hS.2.2 q hq)) ?_
  refine W.widen (k := 600002) (n := 7302232) (by decide) (by decide) ?_
  exact lw_ret hx hb hr hlocks dL_law_1494
set_option maxHeartbeats 4000000 in
set_option maxRecDepth 100000 in
theorem lc_mark {p : Program} {e : Env} {s : State} {m : MethodId} {below : List Frame} {meth : Method} {c : Code} (l : Launch) {b : Nat} {xs : Nat → Int32} (C0 : lw_At p s m meth c b 7 xs) (hts : ∀ w ∈ p_tbl, w.before #[Value.ref b] s = true) {D : va_G} {k : Nat → ClassId} (hK : va_K D vwCl (pT k) s) (hN : pN s) {A : Nat → Prop} (hA : ∀ q : Nat, s.heap.size ≤ q → A q) (hAf : ∀ q : Nat, A q → s.heap.size ≤ q) (qa ma : Nat → Nat) (gs mg : Nat → Nat → Int32) (out : Nat) (hf : p_mf mg) {H : Heap} {locs : List Loc} {ls : Array Slot} (hP : va_P D vwCl (p_big k qa ma gs mg) H) (hD : va_D A (p_big k qa ma gs mg)) (hS : va_S A s.heap H locs) (hl : lv_has ls 7 [(4, .int 0), (3, .ref out), (2, .ref (ma 0)), (1, .ref (qa 0)), (0, .ref b)]) : W p l e room_1 s m #[Value.ref b] below meth c H locs 265 37830 (lw_Z below #[Value.ref b] s) (F0 m 1409 ls []) := by
  obtain ⟨hx, hb, hr, hml, hown, -, hX, hbl, hlocks, hgv⟩ := C0
  obtain ⟨hl0, hl1, hl2, hs0, hs19, hs26, hn0, hm0, hm1, hm2, hm3⟩ := hf
  have hbA : ¬ A b := fun h => absurd (hAf b h) (Nat.not_le.mpr hbl)
  have hP := hP.sub (ws' := [((qa 0), .inr (9, [.ref (qa 1), .ref (qa 6), .ref (qa 9), .ref (qa 17), .ref (qa 18), .ref (qa 19), .ref (qa 20), .ref (qa 23), .ref (qa 25), .ref (qa 28), .ref (qa 29), .ref (qa 30), .ref (qa 31), .int 0, .int 0, .int 0])), ((qa 9), .inr (8, [.ref (qa 10), .ref (qa 11), .ref (qa 12), .ref (qa 13), .ref (qa 14), .ref (qa 15), .ref (qa 16), .int 0, .int (-1), .int 0, .int 0])), ((qa 10), .inl (k 1, 6, .inl (gs 0))), ((qa 11), .inl (k 1, 6, .inl (fun _ => 0))), ((qa 12), .inl (k 1, 6, .inl (fun _ => 0))), ((qa 13), .inl (k 1, 6, .inl (fun _ => 0))), ((qa 14), .inl (k 1, 10, .inl (fun _ => 0))), ((qa 15), .inl (k 1, 10, .inl (fun _ => 0))), ((qa 16), .inl (k 1, 10, .inl (fun _ => 0))), ((qa 18), .inl (k 4, 4, .inr (.inr (.inr (.inr (va_up (va_up (va_up (va_up (fun _ => none) 0 (some (qa 37))) 1 (some (qa 45))) 2 (some (qa 53))) 3 (some (qa 61)))))))), ((qa 37), .inr (8, [.ref (qa 38), .ref (qa 39), .ref (qa 40), .ref (qa 41), .ref (qa 42), .ref (qa 43), .ref (qa 44), .int 0, .int (-1), .int 0, .int 0])), ((qa 38), .inl (k 1, 6, .inl (gs 3))), ((qa 39), .inl (k 1, 6, .inl (fun _ => 0))), ((qa 40), .inl (k 1, 6, .inl (fun _ => 0))), ((qa 41), .inl (k 1, 6, .inl (fun _ => 0))), ((qa 42), .inl (k 1, 10, .inl (fun _ => 0))), ((qa 43), .inl (k 1, 10, .inl (fun _ => 0))), ((qa 44), .inl (k 1, 10, .inl (fun _ => 0))), ((qa 45), .inr (8, [.ref (qa 46), .ref (qa 47), .ref (qa 48), .ref (qa 49), .ref (qa 50), .ref (qa 51), .ref (qa 52), .int 0, .int (-1), .int 0, .int 0])), ((qa 46), .inl (k 1, 6, .inl (gs 4))), ((qa 47), .inl (k 1, 6, .inl (fun _ => 0))), ((qa 48), .inl (k 1, 6, .inl (fun _ => 0))), ((qa 49), .inl (k 1, 6, .inl (fun _ => 0))), ((qa 50), .inl (k 1, 10, .inl (fun _ => 0))), ((qa 51), .inl (k 1, 10, .inl (fun _ => 0))), ((qa 52), .inl (k 1, 10, .inl (fun _ => 0))), ((qa 53), .inr (8, [.ref (qa 54), .ref (qa 55), .ref (qa 56), .ref (qa 57), .ref (qa 58), .ref (qa 59), .ref (qa 60), .int 0, .int (-1), .int 0, .int 0])), ((qa 54), .inl (k 1, 6, .inl (gs 5))), ((qa 55), .inl (k 1, 6, .inl (fun _ => 0))), ((qa 56), .inl (k 1, 6, .inl (fun _ => 0))), ((qa 57), .inl (k 1, 6, .inl (fun _ => 0))), ((qa 58), .inl (k 1, 10, .inl (fun _ => 0))), ((qa 59), .inl (k 1, 10, .inl (fun _ => 0))), ((qa 60), .inl (k 1, 10, .inl (fun _ => 0))), ((qa 61), .inr (8, [.ref (qa 62), .ref (qa 63), .ref (qa 64), .ref (qa 65), .ref (qa 66), .ref (qa 67), .ref (qa 68), .int 0, .int (-1), .int 0, .int 0])), ((qa 62), .inl (k 1, 6, .inl (gs 6))), ((qa 63), .inl (k 1, 6, .inl (fun _ => 0))), ((qa 64), .inl (k 1, 6, .inl (fun _ => 0))), ((qa 65), .inl (k 1, 6, .inl (fun _ => 0))), ((qa 66), .inl (k 1, 10, .inl (fun _ => 0))), ((qa 67), .inl (k 1, 10, .inl (fun _ => 0))), ((qa 68), .inl (k 1, 10, .inl (fun _ => 0))), ((ma 0), .inr (10, [.int 0, .ref (ma 1), .int 0, .int 0, .ref (ma 4), .ref (ma 5), .ref (ma 6), .int 0, .int 0, .ref (ma 9), .ref (ma 10), .ref (ma 11), .ref (ma 12), .int 0, .ref (ma 14), .ref (ma 15), .int 0, .int 0, .ref (ma 18), .ref (ma 19), .ref (ma 20), .ref (ma 21), .ref (ma 22), .int 0, .ref (ma 24), .int 0, .ref (ma 26), .int 0, .int 0, .int 0, .int 0, .ref (ma 31), .ref (ma 32), .ref (ma 33), .ref (ma 34), .ref (ma 35), .int 0, .int 0, .ref (ma 38), .ref (ma 39), .ref (ma 40), .long 0])), ((ma 22), .inl (k 1, 1320, .inl (mg 22))), ((ma 24), .inl (k 3, 4, .inl (mg 24)))]) [0, 9, 10, 11, 12, 13, 14, 15, 16, 18, 37, 38, 39, 40, 41, 42, 43, 44, 45, 46, 47, 48, 49, 50, 51, 52, 53, 54, 55, 56, 57, 58, 59, 60, 61, 62, 63, 64, 65, 66, 67, 68, 133, 141, 142] rfl
  have hD := hD.sub (ws' := [((qa 0), .inr (9, [.ref (qa 1), .ref (qa 6), .ref (qa 9), .ref (qa 17), .ref (qa 18), .ref (qa 19), .ref (qa 20), .ref (qa 23), .ref (qa 25), .ref (qa 28), .ref (qa 29), .ref (qa 30), .ref (qa 31), .int 0, .int 0, .int 0])), ((qa 9), .inr (8, [.ref (qa 10), .ref (qa 11), .ref (qa 12), .ref (qa 13), .ref (qa 14), .ref (qa 15), .ref (qa 16), .int 0, .int (-1), .int 0, .int 0])), ((qa 10), .inl (k 1, 6, .inl (gs 0))), ((qa 11), .inl (k 1, 6, .inl (fun _ => 0))), ((qa 12), .inl (k 1, 6, .inl (fun _ => 0))), ((qa 13), .inl (k 1, 6, .inl (fun _ => 0))), ((qa 14), .inl (k 1, 10, .inl (fun _ => 0))), ((qa 15), .inl (k 1, 10, .inl (fun _ => 0))), ((qa 16), .inl (k 1, 10, .inl (fun _ => 0))), ((qa 18), .inl (k 4, 4, .inr (.inr (.inr (.inr (va_up (va_up (va_up (va_up (fun _ => none) 0 (some (qa 37))) 1 (some (qa 45))) 2 (some (qa 53))) 3 (some (qa 61)))))))), ((qa 37), .inr (8, [.ref (qa 38), .ref (qa 39), .ref (qa 40), .ref (qa 41), .ref (qa 42), .ref (qa 43), .ref (qa 44), .int 0, .int (-1), .int 0, .int 0])), ((qa 38), .inl (k 1, 6, .inl (gs 3))), ((qa 39), .inl (k 1, 6, .inl (fun _ => 0))), ((qa 40), .inl (k 1, 6, .inl (fun _ => 0))), ((qa 41), .inl (k 1, 6, .inl (fun _ => 0))), ((qa 42), .inl (k 1, 10, .inl (fun _ => 0))), ((qa 43), .inl (k 1, 10, .inl (fun _ => 0))), ((qa 44), .inl (k 1, 10, .inl (fun _ => 0))), ((qa 45), .inr (8, [.ref (qa 46), .ref (qa 47), .ref (qa 48), .ref (qa 49), .ref (qa 50), .ref (qa 51), .ref (qa 52), .int 0, .int (-1), .int 0, .int 0])), ((qa 46), .inl (k 1, 6, .inl (gs 4))), ((qa 47), .inl (k 1, 6, .inl (fun _ => 0))), ((qa 48), .inl (k 1, 6, .inl (fun _ => 0))), ((qa 49), .inl (k 1, 6, .inl (fun _ => 0))), ((qa 50), .inl (k 1, 10, .inl (fun _ => 0))), ((qa 51), .inl (k 1, 10, .inl (fun _ => 0))), ((qa 52), .inl (k 1, 10, .inl (fun _ => 0))), ((qa 53), .inr (8, [.ref (qa 54), .ref (qa 55), .ref (qa 56), .ref (qa 57), .ref (qa 58), .ref (qa 59), .ref (qa 60), .int 0, .int (-1), .int 0, .int 0])), ((qa 54), .inl (k 1, 6, .inl (gs 5))), ((qa 55), .inl (k 1, 6, .inl (fun _ => 0))), ((qa 56), .inl (k 1, 6, .inl (fun _ => 0))), ((qa 57), .inl (k 1, 6, .inl (fun _ => 0))), ((qa 58), .inl (k 1, 10, .inl (fun _ => 0))), ((qa 59), .inl (k 1, 10, .inl (fun _ => 0))), ((qa 60), .inl (k 1, 10, .inl (fun _ => 0))), ((qa 61), .inr (8, [.ref (qa 62), .ref (qa 63), .ref (qa 64), .ref (qa 65), .ref (qa 66), .ref (qa 67), .ref (qa 68), .int 0, .int (-1), .int 0, .int 0])), ((qa 62), .inl (k 1, 6, .inl (gs 6))), ((qa 63), .inl (k 1, 6, .inl (fun _ => 0))), ((qa 64), .inl (k 1, 6, .inl (fun _ => 0))), ((qa 65), .inl (k 1, 6, .inl (fun _ => 0))), ((qa 66), .inl (k 1, 10, .inl (fun _ => 0))), ((qa 67), .inl (k 1, 10, .inl (fun _ => 0))), ((qa 68), .inl (k 1, 10, .inl (fun _ => 0))), ((ma 0), .inr (10, [.int 0, .ref (ma 1), .int 0, .int 0, .ref (ma 4), .ref (ma 5), .ref (ma 6), .int 0, .int 0, .ref (ma 9), .ref (ma 10), .ref (ma 11), .ref (ma 12), .int 0, .ref (ma 14), .ref (ma 15), .int 0, .int 0, .ref (ma 18), .ref (ma 19), .ref (ma 20), .ref (ma 21), .ref (ma 22), .int 0, .ref (ma 24), .int 0, .ref (ma 26), .int 0, .int 0, .int 0, .int 0, .ref (ma 31), .ref (ma 32), .ref (ma 33), .ref (ma 34), .ref (ma 35), .int 0, .int 0, .ref (ma 38), .ref (ma 39), .ref (ma 40), .long 0])), ((ma 22), .inl (k 1, 1320, .inl (mg 22))), ((ma 24), .inl (k 3, 4, .inl (mg 24)))]) [0, 9, 10, 11, 12, 13, 14, 15, 16, 18, 37, 38, 39, 40, 41, 42, 43, 44, 45, 46, 47, 48, 49, 50, 51, 52, 53, 54, 55, 56, 57, 58, 59, 60, 61, 62, 63, 64, 65, 66, 67, 68, 133, 141, 142] (by decide) rfl
  by_cases cA : (xs 1) < 0
  · skip
    refine lv_aload_n hx hb dL_law_1409 rfl (lv_at hl 3 rfl) ?_
    refine lv_aload_n hx hb dL_law_1410 rfl (lv_at hl 4 rfl) ?_
    refine lv_iload hx hb dL_law_1411 (lv_at hl 0 rfl) ?_
    refine lv_iconst (v := 1) hx hb dL_law_1413 (by decide) ?_
    refine lv_iadd hx hb dL_law_1414 ?_
    refine p_topI (v := 1) (by decide) ?_
    refine va_sld hx hb hX hbl hbA hS (show ¬ (_ ∨ _) by decide) dL_law_1415 ?_
    refine p_topI (v := (xs 1)) rfl ?_
    refine lv_aload_n hx hb dL_law_1416 rfl (lv_at hl 4 rfl) ?_
    refine lv_iload hx hb dL_law_1417 (lv_at hl 0 rfl) ?_
    refine lv_iconst (v := 2) hx hb dL_law_1419 (by decide) ?_
    refine lv_iadd hx hb dL_law_1420 ?_
    refine p_topI (v := 2) (by decide) ?_
    refine va_sld hx hb hX hbl hbA hS (show ¬ (_ ∨ _) by decide) dL_law_1421 ?_
    refine p_topI (v := (xs 2)) rfl ?_
    refine lv_if_eq (tgt := 1429) hx hb dL_law_1422 (by decide) (fun cx1 => ?_) (fun cx1 => ?_)
    · skip
      refine lv_iconst (v := 0) hx hb dL_law_1429 (by decide) ?_
      refine p_ji (wr := [((qa 9), .inr (8, [.ref (qa 10), .ref (qa 11), .ref (qa 12), .ref (qa 13), .ref (qa 14), .ref (qa 15), .ref (qa 16), .int 0, .int (-1), .int 0, .int 0])), ((qa 10), .inl (k 1, 6, .inl (gs 0))), ((qa 11), .inl (k 1, 6, .inl (fun _ => 0))), ((qa 12), .inl (k 1, 6, .inl (fun _ => 0))), ((qa 13), .inl (k 1, 6, .inl (fun _ => 0))), ((qa 14), .inl (k 1, 10, .inl (fun _ => 0))), ((qa 15), .inl (k 1, 10, .inl (fun _ => 0))), ((qa 16), .inl (k 1, 10, .inl (fun _ => 0))), ((qa 37), .inr (8, [.ref (qa 38), .ref (qa 39), .ref (qa 40), .ref (qa 41), .ref (qa 42), .ref (qa 43), .ref (qa 44), .int 0, .int (-1), .int 0, .int 0])), ((qa 38), .inl (k 1, 6, .inl (gs 3))), ((qa 39), .inl (k 1, 6, .inl (fun _ => 0))), ((qa 40), .inl (k 1, 6, .inl (fun _ => 0))), ((qa 41), .inl (k 1, 6, .inl (fun _ => 0))), ((qa 42), .inl (k 1, 10, .inl (fun _ => 0))), ((qa 43), .inl (k 1, 10, .inl (fun _ => 0))), ((qa 44), .inl (k 1, 10, .inl (fun _ => 0))), ((qa 45), .inr (8, [.ref (qa 46), .ref (qa 47), .ref (qa 48), .ref (qa 49), .ref (qa 50), .ref (qa 51), .ref (qa 52), .int 0, .int (-1), .int 0, .int 0])), ((qa 46), .inl (k 1, 6, .inl (gs 4))), ((qa 47), .inl (k 1, 6, .inl (fun _ => 0))), ((qa 48), .inl (k 1, 6, .inl (fun _ => 0))), ((qa 49), .inl (k 1, 6, .inl (fun _ => 0))), ((qa 50), .inl (k 1, 10, .inl (fun _ => 0))), ((qa 51), .inl (k 1, 10, .inl (fun _ => 0))), ((qa 52), .inl (k 1, 10, .inl (fun _ => 0))), ((qa 53), .inr (8, [.ref (qa 54), .ref (qa 55), .ref (qa 56), .ref (qa 57), .ref (qa 58), .ref (qa 59), .ref (qa 60), .int 0, .int (-1), .int 0, .int 0])), ((qa 54), .inl (k 1, 6, .inl (gs 5))), ((qa 55), .inl (k 1, 6, .inl (fun _ => 0))), ((qa 56), .inl (k 1, 6, .inl (fun _ => 0))), ((qa 57), .inl (k 1, 6, .inl (fun _ => 0))), ((qa 58), .inl (k 1, 10, .inl (fun _ => 0))), ((qa 59), .inl (k 1, 10, .inl (fun _ => 0))), ((qa 60), .inl (k 1, 10, .inl (fun _ => 0))), ((qa 61), .inr (8, [.ref (qa 62), .ref (qa 63), .ref (qa 64), .ref (qa 65), .ref (qa 66), .ref (qa 67), .ref (qa 68), .int 0, .int (-1), .int 0, .int 0])), ((qa 62), .inl (k 1, 6, .inl (gs 6))), ((qa 63), .inl (k 1, 6, .inl (fun _ => 0))), ((qa 64), .inl (k 1, 6, .inl (fun _ => 0))), ((qa 65), .inl (k 1, 6, .inl (fun _ => 0))), ((qa 66), .inl (k 1, 10, .inl (fun _ => 0))), ((qa 67), .inl (k 1, 10, .inl (fun _ => 0))), ((qa 68), .inl (k 1, 10, .inl (fun _ => 0))), ((ma 0), .inr (10, [.int 0, .ref (ma 1), .int 0, .int 0, .ref (ma 4), .ref (ma 5), .ref (ma 6), .int 0, .int 0, .ref (ma 9), .ref (ma 10), .ref (ma 11), .ref (ma 12), .int 0, .ref (ma 14), .ref (ma 15), .int 0, .int 0, .ref (ma 18), .ref (ma 19), .ref (ma 20), .ref (ma 21), .ref (ma 22), .int 0, .ref (ma 24), .int 0, .ref (ma 26), .int 0, .int 0, .int 0, .int 0, .ref (ma 31), .ref (ma 32), .ref (ma 33), .ref (ma 34), .ref (ma 35), .int 0, .int 0, .ref (ma 38), .ref (ma 39), .ref (ma 40), .long 0])), ((ma 22), .inl (k 1, 1320, .inl (mg 22))), ((ma 24), .inl (k 3, 4, .inl (mg 24)))]) (va_runV (As := [.int (xs 1), .int 0]) (rest := []) ⟨hx, hb, hml, hown, hts⟩ (c_mark_lo l D k _ qa (xs 1) 0 cA) (cwV 2 hts lg_96 rfl rfl rfl (by decide +kernel) ⟨Nat.le_of_ble_eq_true rfl, Nat.le_of_ble_eq_true rfl⟩) (pV hK hN hP hD [0, 9] rfl (by decide) rfl 0 rfl rfl) rfl rfl hl.1 rfl (lv_room (Nat.le_of_ble_eq_true rfl)) dL_law_1430 ⟨by decide, by decide⟩) hP hD hS hA [0, 9] [1, 2, 3, 4, 5, 6, 7, 8, 10, 11, 12, 13, 14, 15, 16, 17, 18, 19, 20, 21, 22, 23, 24, 25, 26, 27, 28, 29, 30, 31, 32, 33, 34, 35, 36, 37, 38, 39, 40, 41, 42, 43, 44] rfl rfl (by decide) (by decide) (fun rx4 ux2 H locs wx3 hP hD hS => ?_)
      have hx5 : rx4 = 0 := wx3
      subst hx5
      have hP : va_P D vwCl [((qa 9), .inr (8, [.ref (qa 10), .ref (qa 11), .ref (qa 12), .ref (qa 13), .ref (qa 14), .ref (qa 15), .ref (qa 16), .int 0, .int (-1), .int 0, .int 0])), ((qa 10), .inl (k 1, 6, .inl (gs 0))), ((qa 11), .inl (k 1, 6, .inl (fun _ => 0))), ((qa 12), .inl (k 1, 6, .inl (fun _ => 0))), ((qa 13), .inl (k 1, 6, .inl (fun _ => 0))), ((qa 14), .inl (k 1, 10, .inl (fun _ => 0))), ((qa 15), .inl (k 1, 10, .inl (fun _ => 0))), ((qa 16), .inl (k 1, 10, .inl (fun _ => 0))), ((qa 37), .inr (8, [.ref (qa 38), .ref (qa 39), .ref (qa 40), .ref (qa 41), .ref (qa 42), .ref (qa 43), .ref (qa 44), .int 0, .int (-1), .int 0, .int 0])), ((qa 38), .inl (k 1, 6, .inl (gs 3))), ((qa 39), .inl (k 1, 6, .inl (fun _ => 0))), ((qa 40), .inl (k 1, 6, .inl (fun _ => 0))), ((qa 41), .inl (k 1, 6, .inl (fun _ => 0))), ((qa 42), .inl (k 1, 10, .inl (fun _ => 0))), ((qa 43), .inl (k 1, 10, .inl (fun _ => 0))), ((qa 44), .inl (k 1, 10, .inl (fun _ => 0))), ((qa 45), .inr (8, [.ref (qa 46), .ref (qa 47), .ref (qa 48), .ref (qa 49), .ref (qa 50), .ref (qa 51), .ref (qa 52), .int 0, .int (-1), .int 0, .int 0])), ((qa 46), .inl (k 1, 6, .inl (gs 4))), ((qa 47), .inl (k 1, 6, .inl (fun _ => 0))), ((qa 48), .inl (k 1, 6, .inl (fun _ => 0))), ((qa 49), .inl (k 1, 6, .inl (fun _ => 0))), ((qa 50), .inl (k 1, 10, .inl (fun _ => 0))), ((qa 51), .inl (k 1, 10, .inl (fun _ => 0))), ((qa 52), .inl (k 1, 10, .inl (fun _ => 0))), ((qa 53), .inr (8, [.ref (qa 54), .ref (qa 55), .ref (qa 56), .ref (qa 57), .ref (qa 58), .ref (qa 59), .ref (qa 60), .int 0, .int (-1), .int 0, .int 0])), ((qa 54), .inl (k 1, 6, .inl (gs 5))), ((qa 55), .inl (k 1, 6, .inl (fun _ => 0))), ((qa 56), .inl (k 1, 6, .inl (fun _ => 0))), ((qa 57), .inl (k 1, 6, .inl (fun _ => 0))), ((qa 58), .inl (k 1, 10, .inl (fun _ => 0))), ((qa 59), .inl (k 1, 10, .inl (fun _ => 0))), ((qa 60), .inl (k 1, 10, .inl (fun _ => 0))), ((qa 61), .inr (8, [.ref (qa 62), .ref (qa 63), .ref (qa 64), .ref (qa 65), .ref (qa 66), .ref (qa 67), .ref (qa 68), .int 0, .int (-1), .int 0, .int 0])), ((qa 62), .inl (k 1, 6, .inl (gs 6))), ((qa 63), .inl (k 1, 6, .inl (fun _ => 0))), ((qa 64), .inl (k 1, 6, .inl (fun _ => 0))), ((qa 65), .inl (k 1, 6, .inl (fun _ => 0))), ((qa 66), .inl (k 1, 10, .inl (fun _ => 0))), ((qa 67), .inl (k 1, 10, .inl (fun _ => 0))), ((qa 68), .inl (k 1, 10, .inl (fun _ => 0))), ((ma 0), .inr (10, [.int 0, .ref (ma 1), .int 0, .int 0, .ref (ma 4), .ref (ma 5), .ref (ma 6), .int 0, .int 0, .ref (ma 9), .ref (ma 10), .ref (ma 11), .ref (ma 12), .int 0, .ref (ma 14), .ref (ma 15), .int 0, .int 0, .ref (ma 18), .ref (ma 19), .ref (ma 20), .ref (ma 21), .ref (ma 22), .int 0, .ref (ma 24), .int 0, .ref (ma 26), .int 0, .int 0, .int 0, .int 0, .ref (ma 31), .ref (ma 32), .ref (ma 33), .ref (ma 34), .ref (ma 35), .int 0, .int 0, .ref (ma 38), .ref (ma 39), .ref (ma 40), .long 0])), ((ma 22), .inl (k 1, 1320, .inl (mg 22))), ((ma 24), .inl (k 3, 4, .inl (mg 24)))] H := hP
      have hD : va_D A [((qa 9), .inr (8, [.ref (qa 10), .ref (qa 11), .ref (qa 12), .ref (qa 13), .ref (qa 14), .ref (qa 15), .ref (qa 16), .int 0, .int (-1), .int 0, .int 0])), ((qa 10), .inl (k 1, 6, .inl (gs 0))), ((qa 11), .inl (k 1, 6, .inl (fun _ => 0))), ((qa 12), .inl (k 1, 6, .inl (fun _ => 0))), ((qa 13), .inl (k 1, 6, .inl (fun _ => 0))), ((qa 14), .inl (k 1, 10, .inl (fun _ => 0))), ((qa 15), .inl (k 1, 10, .inl (fun _ => 0))), ((qa 16), .inl (k 1, 10, .inl (fun _ => 0))), ((qa 37), .inr (8, [.ref (qa 38), .ref (qa 39), .ref (qa 40), .ref (qa 41), .ref (qa 42), .ref (qa 43), .ref (qa 44), .int 0, .int (-1), .int 0, .int 0])), ((qa 38), .inl (k 1, 6, .inl (gs 3))), ((qa 39), .inl (k 1, 6, .inl (fun _ => 0))), ((qa 40), .inl (k 1, 6, .inl (fun _ => 0))), ((qa 41), .inl (k 1, 6, .inl (fun _ => 0))), ((qa 42), .inl (k 1, 10, .inl (fun _ => 0))), ((qa 43), .inl (k 1, 10, .inl (fun _ => 0))), ((qa 44), .inl (k 1, 10, .inl (fun _ => 0))), ((qa 45), .inr (8, [.ref (qa 46), .ref (qa 47), .ref (qa 48), .ref (qa 49), .ref (qa 50), .ref (qa 51), .ref (qa 52), .int 0, .int (-1), .int 0, .int 0])), ((qa 46), .inl (k 1, 6, .inl (gs 4))), ((qa 47), .inl (k 1, 6, .inl (fun _ => 0))), ((qa 48), .inl (k 1, 6, .inl (fun _ => 0))), ((qa 49), .inl (k 1, 6, .inl (fun _ => 0))), ((qa 50), .inl (k 1, 10, .inl (fun _ => 0))), ((qa 51), .inl (k 1, 10, .inl (fun _ => 0))), ((qa 52), .inl (k 1, 10, .inl (fun _ => 0))), ((qa 53), .inr (8, [.ref (qa 54), .ref (qa 55), .ref (qa 56), .ref (qa 57), .ref (qa 58), .ref (qa 59), .ref (qa 60), .int 0, .int (-1), .int 0, .int 0])), ((qa 54), .inl (k 1, 6, .inl (gs 5))), ((qa 55), .inl (k 1, 6, .inl (fun _ => 0))), ((qa 56), .inl (k 1, 6, .inl (fun _ => 0))), ((qa 57), .inl (k 1, 6, .inl (fun _ => 0))), ((qa 58), .inl (k 1, 10, .inl (fun _ => 0))), ((qa 59), .inl (k 1, 10, .inl (fun _ => 0))), ((qa 60), .inl (k 1, 10, .inl (fun _ => 0))), ((qa 61), .inr (8, [.ref (qa 62), .ref (qa 63), .ref (qa 64), .ref (qa 65), .ref (qa 66), .ref (qa 67), .ref (qa 68), .int 0, .int (-1), .int 0, .int 0])), ((qa 62), .inl (k 1, 6, .inl (gs 6))), ((qa 63), .inl (k 1, 6, .inl (fun _ => 0))), ((qa 64), .inl (k 1, 6, .inl (fun _ => 0))), ((qa 65), .inl (k 1, 6, .inl (fun _ => 0))), ((qa 66), .inl (k 1, 10, .inl (fun _ => 0))), ((qa 67), .inl (k 1, 10, .inl (fun _ => 0))), ((qa 68), .inl (k 1, 10, .inl (fun _ => 0))), ((ma 0), .inr (10, [.int 0, .ref (ma 1), .int 0, .int 0, .ref (ma 4), .ref (ma 5), .ref (ma 6), .int 0, .int 0, .ref (ma 9), .ref (ma 10), .ref (ma 11), .ref (ma 12), .int 0, .ref (ma 14), .ref (ma 15), .int 0, .int 0, .ref (ma 18), .ref (ma 19), .ref (ma 20), .ref (ma 21), .ref (ma 22), .int 0, .ref (ma 24), .int 0, .ref (ma 26), .int 0, .int 0, .int 0, .int 0, .ref (ma 31), .ref (ma 32), .ref (ma 33), .ref (ma 34), .ref (ma 35), .int 0, .int 0, .ref (ma 38), .ref (ma 39), .ref (ma 40), .long 0])), ((ma 22), .inl (k 1, 1320, .inl (mg 22))), ((ma 24), .inl (k 3, 4, .inl (mg 24)))] := hD
      refine lv_aload_n hx hb dL_law_1433 rfl (lv_at hl 2 rfl) ?_
      refine lv_aload_n hx hb dL_law_1434 rfl (lv_at hl 4 rfl) ?_
      refine lv_iload hx hb dL_law_1435 (lv_at hl 0 rfl) ?_
      refine lv_iconst (v := 1) hx hb dL_law_1437 (by decide) ?_
      refine lv_iadd hx hb dL_law_1438 ?_
      refine p_topI (v := 1) (by decide) ?_
      refine va_sld hx hb hX hbl hbA hS (show ¬ (_ ∨ _) by decide) dL_law_1439 ?_
      refine p_topI (v := (xs 1)) rfl ?_
      refine lv_aload_n hx hb dL_law_1440 rfl (lv_at hl 4 rfl) ?_
      refine lv_iload hx hb dL_law_1441 (lv_at hl 0 rfl) ?_
      refine lv_iconst (v := 2) hx hb dL_law_1443 (by decide) ?_
      refine lv_iadd hx hb dL_law_1444 ?_
      refine p_topI (v := 2) (by decide) ?_
      refine va_sld hx hb hX hbl hbA hS (show ¬ (_ ∨ _) by decide) dL_law_1445 ?_
      refine p_topI (v := 0) cx1 ?_
      refine lv_if_eq (tgt := 1453) hx hb dL_law_1446 (by decide) (fun cx6 => ?_) (fun h9 => absurd (by decide) h9)
      refine lv_iconst (v := 0) hx hb dL_law_1453 (by decide) ?_
      refine p_ji (wr := [((qa 9), .inr (8, [.ref (qa 10), .ref (qa 11), .ref (qa 12), .ref (qa 13), .ref (qa 14), .ref (qa 15), .ref (qa 16), .int 0, .int (-1), .int 0, .int 0])), ((qa 10), .inl (k 1, 6, .inl (gs 0))), ((qa 11), .inl (k 1, 6, .inl (fun _ => 0))), ((qa 12), .inl (k 1, 6, .inl (fun _ => 0))), ((qa 13), .inl (k 1, 6, .inl (fun _ => 0))), ((qa 14), .inl (k 1, 10, .inl (fun _ => 0))), ((qa 15), .inl (k 1, 10, .inl (fun _ => 0))), ((qa 16), .inl (k 1, 10, .inl (fun _ => 0))), ((qa 37), .inr (8, [.ref (qa 38), .ref (qa 39), .ref (qa 40), .ref (qa 41), .ref (qa 42), .ref (qa 43), .ref (qa 44), .int 0, .int (-1), .int 0, .int 0])), ((qa 38), .inl (k 1, 6, .inl (gs 3))), ((qa 39), .inl (k 1, 6, .inl (fun _ => 0))), ((qa 40), .inl (k 1, 6, .inl (fun _ => 0))), ((qa 41), .inl (k 1, 6, .inl (fun _ => 0))), ((qa 42), .inl (k 1, 10, .inl (fun _ => 0))), ((qa 43), .inl (k 1, 10, .inl (fun _ => 0))), ((qa 44), .inl (k 1, 10, .inl (fun _ => 0))), ((qa 45), .inr (8, [.ref (qa 46), .ref (qa 47), .ref (qa 48), .ref (qa 49), .ref (qa 50), .ref (qa 51), .ref (qa 52), .int 0, .int (-1), .int 0, .int 0])), ((qa 46), .inl (k 1, 6, .inl (gs 4))), ((qa 47), .inl (k 1, 6, .inl (fun _ => 0))), ((qa 48), .inl (k 1, 6, .inl (fun _ => 0))), ((qa 49), .inl (k 1, 6, .inl (fun _ => 0))), ((qa 50), .inl (k 1, 10, .inl (fun _ => 0))), ((qa 51), .inl (k 1, 10, .inl (fun _ => 0))), ((qa 52), .inl (k 1, 10, .inl (fun _ => 0))), ((qa 53), .inr (8, [.ref (qa 54), .ref (qa 55), .ref (qa 56), .ref (qa 57), .ref (qa 58), .ref (qa 59), .ref (qa 60), .int 0, .int (-1), .int 0, .int 0])), ((qa 54), .inl (k 1, 6, .inl (gs 5))), ((qa 55), .inl (k 1, 6, .inl (fun _ => 0))), ((qa 56), .inl (k 1, 6, .inl (fun _ => 0))), ((qa 57), .inl (k 1, 6, .inl (fun _ => 0))), ((qa 58), .inl (k 1, 10, .inl (fun _ => 0))), ((qa 59), .inl (k 1, 10, .inl (fun _ => 0))), ((qa 60), .inl (k 1, 10, .inl (fun _ => 0))), ((qa 61), .inr (8, [.ref (qa 62), .ref (qa 63), .ref (qa 64), .ref (qa 65), .ref (qa 66), .ref (qa 67), .ref (qa 68), .int 0, .int (-1), .int 0, .int 0])), ((qa 62), .inl (k 1, 6, .inl (gs 6))), ((qa 63), .inl (k 1, 6, .inl (fun _ => 0))), ((qa 64), .inl (k 1, 6, .inl (fun _ => 0))), ((qa 65), .inl (k 1, 6, .inl (fun _ => 0))), ((qa 66), .inl (k 1, 10, .inl (fun _ => 0))), ((qa 67), .inl (k 1, 10, .inl (fun _ => 0))), ((qa 68), .inl (k 1, 10, .inl (fun _ => 0))), ((ma 22), .inl (k 1, 1320, .inl (mg 22))), ((ma 24), .inl (k 3, 4, .inl (mg 24)))]) (va_runV (As := [.int (xs 1), .int 0]) (rest := [.int 0]) ⟨hx, hb, hml, hown, hts⟩ (c_m_mark_lo l D k _ ma (xs 1) 0 cA) (cwV 2 hts lg_97 rfl rfl rfl (by decide +kernel) ⟨Nat.le_of_ble_eq_true rfl, Nat.le_of_ble_eq_true rfl⟩) (pV hK hN hP hD [40] rfl (by decide) rfl 40 rfl rfl) rfl rfl hl.1 rfl (lv_room (Nat.le_of_ble_eq_true rfl)) dL_law_1454 ⟨by decide, by decide⟩) hP hD hS hA [40] [0, 1, 2, 3, 4, 5, 6, 7, 8, 9, 10, 11, 12, 13, 14, 15, 16, 17, 18, 19, 20, 21, 22, 23, 24, 25, 26, 27, 28, 29, 30, 31, 32, 33, 34, 35, 36, 37, 38, 39, 41, 42] rfl rfl (by decide) (by decide) (fun rx9 ux7 H locs wx8 hP hD hS => ?_)
      have hx10 : rx9 = 0 := wx8
      subst hx10
      have hP : va_P D vwCl [((qa 9), .inr (8, [.ref (qa 10), .ref (qa 11), .ref (qa 12), .ref (qa 13), .ref (qa 14), .ref (qa 15), .ref (qa 16), .int 0, .int (-1), .int 0, .int 0])), ((qa 10), .inl (k 1, 6, .inl (gs 0))), ((qa 11), .inl (k 1, 6, .inl (fun _ => 0))), ((qa 12), .inl (k 1, 6, .inl (fun _ => 0))), ((qa 13), .inl (k 1, 6, .inl (fun _ => 0))), ((qa 14), .inl (k 1, 10, .inl (fun _ => 0))), ((qa 15), .inl (k 1, 10, .inl (fun _ => 0))), ((qa 16), .inl (k 1, 10, .inl (fun _ => 0))), ((qa 37), .inr (8, [.ref (qa 38), .ref (qa 39), .ref (qa 40), .ref (qa 41), .ref (qa 42), .ref (qa 43), .ref (qa 44), .int 0, .int (-1), .int 0, .int 0])), ((qa 38), .inl (k 1, 6, .inl (gs 3))), ((qa 39), .inl (k 1, 6, .inl (fun _ => 0))), ((qa 40), .inl (k 1, 6, .inl (fun _ => 0))), ((qa 41), .inl (k 1, 6, .inl (fun _ => 0))), ((qa 42), .inl (k 1, 10, .inl (fun _ => 0))), ((qa 43), .inl (k 1, 10, .inl (fun _ => 0))), ((qa 44), .inl (k 1, 10, .inl (fun _ => 0))), ((qa 45), .inr (8, [.ref (qa 46), .ref (qa 47), .ref (qa 48), .ref (qa 49), .ref (qa 50), .ref (qa 51), .ref (qa 52), .int 0, .int (-1), .int 0, .int 0])), ((qa 46), .inl (k 1, 6, .inl (gs 4))), ((qa 47), .inl (k 1, 6, .inl (fun _ => 0))), ((qa 48), .inl (k 1, 6, .inl (fun _ => 0))), ((qa 49), .inl (k 1, 6, .inl (fun _ => 0))), ((qa 50), .inl (k 1, 10, .inl (fun _ => 0))), ((qa 51), .inl (k 1, 10, .inl (fun _ => 0))), ((qa 52), .inl (k 1, 10, .inl (fun _ => 0))), ((qa 53), .inr (8, [.ref (qa 54), .ref (qa 55), .ref (qa 56), .ref (qa 57), .ref (qa 58), .ref (qa 59), .ref (qa 60), .int 0, .int (-1), .int 0, .int 0])), ((qa 54), .inl (k 1, 6, .inl (gs 5))), ((qa 55), .inl (k 1, 6, .inl (fun _ => 0))), ((qa 56), .inl (k 1, 6, .inl (fun _ => 0))), ((qa 57), .inl (k 1, 6, .inl (fun _ => 0))), ((qa 58), .inl (k 1, 10, .inl (fun _ => 0))), ((qa 59), .inl (k 1, 10, .inl (fun _ => 0))), ((qa 60), .inl (k 1, 10, .inl (fun _ => 0))), ((qa 61), .inr (8, [.ref (qa 62), .ref (qa 63), .ref (qa 64), .ref (qa 65), .ref (qa 66), .ref (qa 67), .ref (qa 68), .int 0, .int (-1), .int 0, .int 0])), ((qa 62), .inl (k 1, 6, .inl (gs 6))), ((qa 63), .inl (k 1, 6, .inl (fun _ => 0))), ((qa 64), .inl (k 1, 6, .inl (fun _ => 0))), ((qa 65), .inl (k 1, 6, .inl (fun _ => 0))), ((qa 66), .inl (k 1, 10, .inl (fun _ => 0))), ((qa 67), .inl (k 1, 10, .inl (fun _ => 0))), ((qa 68), .inl (k 1, 10, .inl (fun _ => 0))), ((ma 22), .inl (k 1, 1320, .inl (mg 22))), ((ma 24), .inl (k 3, 4, .inl (mg 24)))] H := hP
      have hD : va_D A [((qa 9), .inr (8, [.ref (qa 10), .ref (qa 11), .ref (qa 12), .ref (qa 13), .ref (qa 14), .ref (qa 15), .ref (qa 16), .int 0, .int (-1), .int 0, .int 0])), ((qa 10), .inl (k 1, 6, .inl (gs 0))), ((qa 11), .inl (k 1, 6, .inl (fun _ => 0))), ((qa 12), .inl (k 1, 6, .inl (fun _ => 0))), ((qa 13), .inl (k 1, 6, .inl (fun _ => 0))), ((qa 14), .inl (k 1, 10, .inl (fun _ => 0))), ((qa 15), .inl (k 1, 10, .inl (fun _ => 0))), ((qa 16), .inl (k 1, 10, .inl (fun _ => 0))), ((qa 37), .inr (8, [.ref (qa 38), .ref (qa 39), .ref (qa 40), .ref (qa 41), .ref (qa 42), .ref (qa 43), .ref (qa 44), .int 0, .int (-1), .int 0, .int 0])), ((qa 38), .inl (k 1, 6, .inl (gs 3))), ((qa 39), .inl (k 1, 6, .inl (fun _ => 0))), ((qa 40), .inl (k 1, 6, .inl (fun _ => 0))), ((qa 41), .inl (k 1, 6, .inl (fun _ => 0))), ((qa 42), .inl (k 1, 10, .inl (fun _ => 0))), ((qa 43), .inl (k 1, 10, .inl (fun _ => 0))), ((qa 44), .inl (k 1, 10, .inl (fun _ => 0))), ((qa 45), .inr (8, [.ref (qa 46), .ref (qa 47), .ref (qa 48), .ref (qa 49), .ref (qa 50), .ref (qa 51), .ref (qa 52), .int 0, .int (-1), .int 0, .int 0])), ((qa 46), .inl (k 1, 6, .inl (gs 4))), ((qa 47), .inl (k 1, 6, .inl (fun _ => 0))), ((qa 48), .inl (k 1, 6, .inl (fun _ => 0))), ((qa 49), .inl (k 1, 6, .inl (fun _ => 0))), ((qa 50), .inl (k 1, 10, .inl (fun _ => 0))), ((qa 51), .inl (k 1, 10, .inl (fun _ => 0))), ((qa 52), .inl (k 1, 10, .inl (fun _ => 0))), ((qa 53), .inr (8, [.ref (qa 54), .ref (qa 55), .ref (qa 56), .ref (qa 57), .ref (qa 58), .ref (qa 59), .ref (qa 60), .int 0, .int (-1), .int 0, .int 0])), ((qa 54), .inl (k 1, 6, .inl (gs 5))), ((qa 55), .inl (k 1, 6, .inl (fun _ => 0))), ((qa 56), .inl (k 1, 6, .inl (fun _ => 0))), ((qa 57), .inl (k 1, 6, .inl (fun _ => 0))), ((qa 58), .inl (k 1, 10, .inl (fun _ => 0))), ((qa 59), .inl (k 1, 10, .inl (fun _ => 0))), ((qa 60), .inl (k 1, 10, .inl (fun _ => 0))), ((qa 61), .inr (8, [.ref (qa 62), .ref (qa 63), .ref (qa 64), .ref (qa 65), .ref (qa 66), .ref (qa 67), .ref (qa 68), .int 0, .int (-1), .int 0, .int 0])), ((qa 62), .inl (k 1, 6, .inl (gs 6))), ((qa 63), .inl (k 1, 6, .inl (fun _ => 0))), ((qa 64), .inl (k 1, 6, .inl (fun _ => 0))), ((qa 65), .inl (k 1, 6, .inl (fun _ => 0))), ((qa 66), .inl (k 1, 10, .inl (fun _ => 0))), ((qa 67), .inl (k 1, 10, .inl (fun _ => 0))), ((qa 68), .inl (k 1, 10, .inl (fun _ => 0))), ((ma 22), .inl (k 1, 1320, .inl (mg 22))), ((ma 24), .inl (k 3, 4, .inl (mg 24)))] := hD
      refine lv_icmp_eq (tgt := 1487) hx hb dL_law_1457 (by decide) (fun cx11 => ?_) (fun h9 => absurd (by decide) h9)
      refine lv_iinc (v := 7) (lv' := [(4, .int 7), (3, .ref out), (2, .ref (ma 0)), (1, .ref (qa 0)), (0, .ref b)]) hx hb dL_law_1487 hl (k := 0) rfl (by decide) (by decide) rfl (fun ls hl => ?_)
      refine lv_goto (tgt := 23) hx hb dL_law_1490 (by decide) ?_
      refine lv_iload hx hb dL_law_23 (lv_at hl 0 rfl) ?_
      refine lv_aload_n hx hb dL_law_25 rfl (lv_at hl 4 rfl) ?_
      refine va_slen hx hb hX hbl hbA hS dL_law_26 ?_
      refine p_topI (v := 7) (by decide) ?_
      refine lv_bipush (v := 7) hx hb dL_law_27 (by decide) ?_
      refine lv_isub hx hb dL_law_29 ?_
      refine p_topI (v := 0) (by decide) ?_
      refine lv_icmp_gt (tgt := 1493) hx hb dL_law_30 (by decide) (fun cx12 => ?_) (fun h9 => absurd (by decide) h9)
      refine lv_iconst (v := 1) hx hb dL_law_1493 (by decide) ?_
      refine va_forget (fun q hq => hAf _ (hS.2.2 q hq)) ?_
      refine W.widen (k := 600002) (n := 7302232) (by decide) (by decide) ?_
      exact lw_ret hx hb hr hlocks dL_law_1494
    · skip
      refine lv_iconst (v := 1) hx hb dL_law_1425 (by decide) ?_
      refine lv_goto (tgt := 1430) hx hb dL_law_1426 (by decide) ?_
      refine p_ji (wr := [((qa 9), .inr (8, [.ref (qa 10), .ref (qa 11), .ref (qa 12), .ref (qa 13), .ref (qa 14), .ref (qa 15), .ref (qa 16), .int 0, .int (-1), .int 0, .int 0])), ((qa 10), .inl (k 1, 6, .inl (gs 0))), ((qa 11), .inl (k 1, 6, .inl (fun _ => 0))), ((qa 12), .inl (k 1, 6, .inl (fun _ => 0))), ((qa 13), .inl (k 1, 6, .inl (fun _ => 0))), ((qa 14), .inl (k 1, 10, .inl (fun _ => 0))), ((qa 15), .inl (k 1, 10, .inl (fun _ => 0))), ((qa 16), .inl (k 1, 10, .inl (fun _ => 0))), ((qa 37), .inr (8, [.ref (qa 38), .ref (qa 39), .ref (qa 40), .ref (qa 41), .ref (qa 42), .ref (qa 43), .ref (qa 44), .int 0, .int (-1), .int 0, .int 0])), ((qa 38), .inl (k 1, 6, .inl (gs 3))), ((qa 39), .inl (k 1, 6, .inl (fun _ => 0))), ((qa 40), .inl (k 1, 6, .inl (fun _ => 0))), ((qa 41), .inl (k 1, 6, .inl (fun _ => 0))), ((qa 42), .inl (k 1, 10, .inl (fun _ => 0))), ((qa 43), .inl (k 1, 10, .inl (fun _ => 0))), ((qa 44), .inl (k 1, 10, .inl (fun _ => 0))), ((qa 45), .inr (8, [.ref (qa 46), .ref (qa 47), .ref (qa 48), .ref (qa 49), .ref (qa 50), .ref (qa 51), .ref (qa 52), .int 0, .int (-1), .int 0, .int 0])), ((qa 46), .inl (k 1, 6, .inl (gs 4))), ((qa 47), .inl (k 1, 6, .inl (fun _ => 0))), ((qa 48), .inl (k 1, 6, .inl (fun _ => 0))), ((qa 49), .inl (k 1, 6, .inl (fun _ => 0))), ((qa 50), .inl (k 1, 10, .inl (fun _ => 0))), ((qa 51), .inl (k 1, 10, .inl (fun _ => 0))), ((qa 52), .inl (k 1, 10, .inl (fun _ => 0))), ((qa 53), .inr (8, [.ref (qa 54), .ref (qa 55), .ref (qa 56), .ref (qa 57), .ref (qa 58), .ref (qa 59), .ref (qa 60), .int 0, .int (-1), .int 0, .int 0])), ((qa 54), .inl (k 1, 6, .inl (gs 5))), ((qa 55), .inl (k 1, 6, .inl (fun _ => 0))), ((qa 56), .inl (k 1, 6, .inl (fun _ => 0))), ((qa 57), .inl (k 1, 6, .inl (fun _ => 0))), ((qa 58), .inl (k 1, 10, .inl (fun _ => 0))), ((qa 59), .inl (k 1, 10, .inl (fun _ => 0))), ((qa 60), .inl (k 1, 10, .inl (fun _ => 0))), ((qa 61), .inr (8, [.ref (qa 62), .ref (qa 63), .ref (qa 64), .ref (qa 65), .ref (qa 66), .ref (qa 67), .ref (qa 68), .int 0, .int (-1), .int 0, .int 0])), ((qa 62), .inl (k 1, 6, .inl (gs 6))), ((qa 63), .inl (k 1, 6, .inl (fun _ => 0))), ((qa 64), .inl (k 1, 6, .inl (fun _ => 0))), ((qa 65), .inl (k 1, 6, .inl (fun _ => 0))), ((qa 66), .inl (k 1, 10, .inl (fun _ => 0))), ((qa 67), .inl (k 1, 10, .inl (fun _ => 0))), ((qa 68), .inl (k 1, 10, .inl (fun _ => 0))), ((ma 0), .inr (10, [.int 0, .ref (ma 1), .int 0, .int 0, .ref (ma 4), .ref (ma 5), .ref (ma 6), .int 0, .int 0, .ref (ma 9), .ref (ma 10), .ref (ma 11), .ref (ma 12), .int 0, .ref (ma 14), .ref (ma 15), .int 0, .int 0, .ref (ma 18), .ref (ma 19), .ref (ma 20), .ref (ma 21), .ref (ma 22), .int 0, .ref (ma 24), .int 0, .ref (ma 26), .int 0, .int 0, .int 0, .int 0, .ref (ma 31), .ref (ma 32), .ref (ma 33), .ref (ma 34), .ref (ma 35), .int 0, .int 0, .ref (ma 38), .ref (ma 39), .ref (ma 40), .long 0])), ((ma 22), .inl (k 1, 1320, .inl (mg 22))), ((ma 24), .inl (k 3, 4, .inl (mg 24)))]) (va_runV (As := [.int (xs 1), .int 1]) (rest := []) ⟨hx, hb, hml, hown, hts⟩ (c_mark_lo l D k _ qa (xs 1) 1 cA) (cwV 2 hts lg_96 rfl rfl rfl (by decide +kernel) ⟨Nat.le_of_ble_eq_true rfl, Nat.le_of_ble_eq_true rfl⟩) (pV hK hN hP hD [0, 9] rfl (by decide) rfl 0 rfl rfl) rfl rfl hl.1 rfl (lv_room (Nat.le_of_ble_eq_true rfl)) dL_law_1430 ⟨by decide, by decide⟩) hP hD hS hA [0, 9] [1, 2, 3, 4, 5, 6, 7, 8, 10, 11, 12, 13, 14, 15, 16, 17, 18, 19, 20, 21, 22, 23, 24, 25, 26, 27, 28, 29, 30, 31, 32, 33, 34, 35, 36, 37, 38, 39, 40, 41, 42, 43, 44] rfl rfl (by decide) (by decide) (fun rx15 ux13 H locs wx14 hP hD hS => ?_)
      have hx16 : rx15 = 0 := wx14
      subst hx16
      have hP : va_P D vwCl [((qa 9), .inr (8, [.ref (qa 10), .ref (qa 11), .ref (qa 12), .ref (qa 13), .ref (qa 14), .ref (qa 15), .ref (qa 16), .int 0, .int (-1), .int 0, .int 0])), ((qa 10), .inl (k 1, 6, .inl (gs 0))), ((qa 11), .inl (k 1, 6, .inl (fun _ => 0))), ((qa 12), .inl (k 1, 6, .inl (fun _ => 0))), ((qa 13), .inl (k 1, 6, .inl (fun _ => 0))), ((qa 14), .inl (k 1, 10, .inl (fun _ => 0))), ((qa 15), .inl (k 1, 10, .inl (fun _ => 0))), ((qa 16), .inl (k 1, 10, .inl (fun _ => 0))), ((qa 37), .inr (8, [.ref (qa 38), .ref (qa 39), .ref (qa 40), .ref (qa 41), .ref (qa 42), .ref (qa 43), .ref (qa 44), .int 0, .int (-1), .int 0, .int 0])), ((qa 38), .inl (k 1, 6, .inl (gs 3))), ((qa 39), .inl (k 1, 6, .inl (fun _ => 0))), ((qa 40), .inl (k 1, 6, .inl (fun _ => 0))), ((qa 41), .inl (k 1, 6, .inl (fun _ => 0))), ((qa 42), .inl (k 1, 10, .inl (fun _ => 0))), ((qa 43), .inl (k 1, 10, .inl (fun _ => 0))), ((qa 44), .inl (k 1, 10, .inl (fun _ => 0))), ((qa 45), .inr (8, [.ref (qa 46), .ref (qa 47), .ref (qa 48), .ref (qa 49), .ref (qa 50), .ref (qa 51), .ref (qa 52), .int 0, .int (-1), .int 0, .int 0])), ((qa 46), .inl (k 1, 6, .inl (gs 4))), ((qa 47), .inl (k 1, 6, .inl (fun _ => 0))), ((qa 48), .inl (k 1, 6, .inl (fun _ => 0))), ((qa 49), .inl (k 1, 6, .inl (fun _ => 0))), ((qa 50), .inl (k 1, 10, .inl (fun _ => 0))), ((qa 51), .inl (k 1, 10, .inl (fun _ => 0))), ((qa 52), .inl (k 1, 10, .inl (fun _ => 0))), ((qa 53), .inr (8, [.ref (qa 54), .ref (qa 55), .ref (qa 56), .ref (qa 57), .ref (qa 58), .ref (qa 59), .ref (qa 60), .int 0, .int (-1), .int 0, .int 0])), ((qa 54), .inl (k 1, 6, .inl (gs 5))), ((qa 55), .inl (k 1, 6, .inl (fun _ => 0))), ((qa 56), .inl (k 1, 6, .inl (fun _ => 0))), ((qa 57), .inl (k 1, 6, .inl (fun _ => 0))), ((qa 58), .inl (k 1, 10, .inl (fun _ => 0))), ((qa 59), .inl (k 1, 10, .inl (fun _ => 0))), ((qa 60), .inl (k 1, 10, .inl (fun _ => 0))), ((qa 61), .inr (8, [.ref (qa 62), .ref (qa 63), .ref (qa 64), .ref (qa 65), .ref (qa 66), .ref (qa 67), .ref (qa 68), .int 0, .int (-1), .int 0, .int 0])), ((qa 62), .inl (k 1, 6, .inl (gs 6))), ((qa 63), .inl (k 1, 6, .inl (fun _ => 0))), ((qa 64), .inl (k 1, 6, .inl (fun _ => 0))), ((qa 65), .inl (k 1, 6, .inl (fun _ => 0))), ((qa 66), .inl (k 1, 10, .inl (fun _ => 0))), ((qa 67), .inl (k 1, 10, .inl (fun _ => 0))), ((qa 68), .inl (k 1, 10, .inl (fun _ => 0))), ((ma 0), .inr (10, [.int 0, .ref (ma 1), .int 0, .int 0, .ref (ma 4), .ref (ma 5), .ref (ma 6), .int 0, .int 0, .ref (ma 9), .ref (ma 10), .ref (ma 11), .ref (ma 12), .int 0, .ref (ma 14), .ref (ma 15), .int 0, .int 0, .ref (ma 18), .ref (ma 19), .ref (ma 20), .ref (ma 21), .ref (ma 22), .int 0, .ref (ma 24), .int 0, .ref (ma 26), .int 0, .int 0, .int 0, .int 0, .ref (ma 31), .ref (ma 32), .ref (ma 33), .ref (ma 34), .ref (ma 35), .int 0, .int 0, .ref (ma 38), .ref (ma 39), .ref (ma 40), .long 0])), ((ma 22), .inl (k 1, 1320, .inl (mg 22))), ((ma 24), .inl (k 3, 4, .inl (mg 24)))] H := hP
      have hD : va_D A [((qa 9), .inr (8, [.ref (qa 10), .ref (qa 11), .ref (qa 12), .ref (qa 13), .ref (qa 14), .ref (qa 15), .ref (qa 16), .int 0, .int (-1), .int 0, .int 0])), ((qa 10), .inl (k 1, 6, .inl (gs 0))), ((qa 11), .inl (k 1, 6, .inl (fun _ => 0))), ((qa 12), .inl (k 1, 6, .inl (fun _ => 0))), ((qa 13), .inl (k 1, 6, .inl (fun _ => 0))), ((qa 14), .inl (k 1, 10, .inl (fun _ => 0))), ((qa 15), .inl (k 1, 10, .inl (fun _ => 0))), ((qa 16), .inl (k 1, 10, .inl (fun _ => 0))), ((qa 37), .inr (8, [.ref (qa 38), .ref (qa 39), .ref (qa 40), .ref (qa 41), .ref (qa 42), .ref (qa 43), .ref (qa 44), .int 0, .int (-1), .int 0, .int 0])), ((qa 38), .inl (k 1, 6, .inl (gs 3))), ((qa 39), .inl (k 1, 6, .inl (fun _ => 0))), ((qa 40), .inl (k 1, 6, .inl (fun _ => 0))), ((qa 41), .inl (k 1, 6, .inl (fun _ => 0))), ((qa 42), .inl (k 1, 10, .inl (fun _ => 0))), ((qa 43), .inl (k 1, 10, .inl (fun _ => 0))), ((qa 44), .inl (k 1, 10, .inl (fun _ => 0))), ((qa 45), .inr (8, [.ref (qa 46), .ref (qa 47), .ref (qa 48), .ref (qa 49), .ref (qa 50), .ref (qa 51), .ref (qa 52), .int 0, .int (-1), .int 0, .int 0])), ((qa 46), .inl (k 1, 6, .inl (gs 4))), ((qa 47), .inl (k 1, 6, .inl (fun _ => 0))), ((qa 48), .inl (k 1, 6, .inl (fun _ => 0))), ((qa 49), .inl (k 1, 6, .inl (fun _ => 0))), ((qa 50), .inl (k 1, 10, .inl (fun _ => 0))), ((qa 51), .inl (k 1, 10, .inl (fun _ => 0))), ((qa 52), .inl (k 1, 10, .inl (fun _ => 0))), ((qa 53), .inr (8, [.ref (qa 54), .ref (qa 55), .ref (qa 56), .ref (qa 57), .ref (qa 58), .ref (qa 59), .ref (qa 60), .int 0, .int (-1), .int 0, .int 0])), ((qa 54), .inl (k 1, 6, .inl (gs 5))), ((qa 55), .inl (k 1, 6, .inl (fun _ => 0))), ((qa 56), .inl (k 1, 6, .inl (fun _ => 0))), ((qa 57), .inl (k 1, 6, .inl (fun _ => 0))), ((qa 58), .inl (k 1, 10, .inl (fun _ => 0))), ((qa 59), .inl (k 1, 10, .inl (fun _ => 0))), ((qa 60), .inl (k 1, 10, .inl (fun _ => 0))), ((qa 61), .inr (8, [.ref (qa 62), .ref (qa 63), .ref (qa 64), .ref (qa 65), .ref (qa 66), .ref (qa 67), .ref (qa 68), .int 0, .int (-1), .int 0, .int 0])), ((qa 62), .inl (k 1, 6, .inl (gs 6))), ((qa 63), .inl (k 1, 6, .inl (fun _ => 0))), ((qa 64), .inl (k 1, 6, .inl (fun _ => 0))), ((qa 65), .inl (k 1, 6, .inl (fun _ => 0))), ((qa 66), .inl (k 1, 10, .inl (fun _ => 0))), ((qa 67), .inl (k 1, 10, .inl (fun _ => 0))), ((qa 68), .inl (k 1, 10, .inl (fun _ => 0))), ((ma 0), .inr (10, [.int 0, .ref (ma 1), .int 0, .int 0, .ref (ma 4), .ref (ma 5), .ref (ma 6), .int 0, .int 0, .ref (ma 9), .ref (ma 10), .ref (ma 11), .ref (ma 12), .int 0, .ref (ma 14), .ref (ma 15), .int 0, .int 0, .ref (ma 18), .ref (ma 19), .ref (ma 20), .ref (ma 21), .ref (ma 22), .int 0, .ref (ma 24), .int 0, .ref (ma 26), .int 0, .int 0, .int 0, .int 0, .ref (ma 31), .ref (ma 32), .ref (ma 33), .ref (ma 34), .ref (ma 35), .int 0, .int 0, .ref (ma 38), .ref (ma 39), .ref (ma 40), .long 0])), ((ma 22), .inl (k 1, 1320, .inl (mg 22))), ((ma 24), .inl (k 3, 4, .inl (mg 24)))] := hD
      refine lv_aload_n hx hb dL_law_1433 rfl (lv_at hl 2 rfl) ?_
      refine lv_aload_n hx hb dL_law_1434 rfl (lv_at hl 4 rfl) ?_
      refine lv_iload hx hb dL_law_1435 (lv_at hl 0 rfl) ?_
      refine lv_iconst (v := 1) hx hb dL_law_1437 (by decide) ?_
      refine lv_iadd hx hb dL_law_1438 ?_
      refine p_topI (v := 1) (by decide) ?_
      refine va_sld hx hb hX hbl hbA hS (show ¬ (_ ∨ _) by decide) dL_law_1439 ?_
      refine p_topI (v := (xs 1)) rfl ?_
      refine lv_aload_n hx hb dL_law_1440 rfl (lv_at hl 4 rfl) ?_
      refine lv_iload hx hb dL_law_1441 (lv_at hl 0 rfl) ?_
      refine lv_iconst (v := 2) hx hb dL_law_1443 (by decide) ?_
      refine lv_iadd hx hb dL_law_1444 ?_
      refine p_topI (v := 2) (by decide) ?_
      refine va_sld hx hb hX hbl hbA hS (show ¬ (_ ∨ _) by decide) dL_law_1445 ?_
      refine p_topI (v := (xs 2)) rfl ?_
      refine lv_if_eq (tgt := 1453) hx hb dL_law_1446 (by decide) (fun h9 => absurd h9 cx1) (fun cx17 => ?_)
      refine lv_iconst (v := 1) hx hb dL_law_1449 (by decide) ?_
      refine lv_goto (tgt := 1454) hx hb dL_law_1450 (by decide) ?_
      refine p_ji (wr := [((qa 9), .inr (8, [.ref (qa 10), .ref (qa 11), .ref (qa 12), .ref (qa 13), .ref (qa 14), .ref (qa 15), .ref (qa 16), .int 0, .int (-1), .int 0, .int 0])), ((qa 10), .inl (k 1, 6, .inl (gs 0))), ((qa 11), .inl (k 1, 6, .inl (fun _ => 0))), ((qa 12), .inl (k 1, 6, .inl (fun _ => 0))), ((qa 13), .inl (k 1, 6, .inl (fun _ => 0))), ((qa 14), .inl (k 1, 10, .inl (fun _ => 0))), ((qa 15), .inl (k 1, 10, .inl (fun _ => 0))), ((qa 16), .inl (k 1, 10, .inl (fun _ => 0))), ((qa 37), .inr (8, [.ref (qa 38), .ref (qa 39), .ref (qa 40), .ref (qa 41), .ref (qa 42), .ref (qa 43), .ref (qa 44), .int 0, .int (-1), .int 0, .int 0])), ((qa 38), .inl (k 1, 6, .inl (gs 3))), ((qa 39), .inl (k 1, 6, .inl (fun _ => 0))), ((qa 40), .inl (k 1, 6, .inl (fun _ => 0))), ((qa 41), .inl (k 1, 6, .inl (fun _ => 0))), ((qa 42), .inl (k 1, 10, .inl (fun _ => 0))), ((qa 43), .inl (k 1, 10, .inl (fun _ => 0))), ((qa 44), .inl (k 1, 10, .inl (fun _ => 0))), ((qa 45), .inr (8, [.ref (qa 46), .ref (qa 47), .ref (qa 48), .ref (qa 49), .ref (qa 50), .ref (qa 51), .ref (qa 52), .int 0, .int (-1), .int 0, .int 0])), ((qa 46), .inl (k 1, 6, .inl (gs 4))), ((qa 47), .inl (k 1, 6, .inl (fun _ => 0))), ((qa 48), .inl (k 1, 6, .inl (fun _ => 0))), ((qa 49), .inl (k 1, 6, .inl (fun _ => 0))), ((qa 50), .inl (k 1, 10, .inl (fun _ => 0))), ((qa 51), .inl (k 1, 10, .inl (fun _ => 0))), ((qa 52), .inl (k 1, 10, .inl (fun _ => 0))), ((qa 53), .inr (8, [.ref (qa 54), .ref (qa 55), .ref (qa 56), .ref (qa 57), .ref (qa 58), .ref (qa 59), .ref (qa 60), .int 0, .int (-1), .int 0, .int 0])), ((qa 54), .inl (k 1, 6, .inl (gs 5))), ((qa 55), .inl (k 1, 6, .inl (fun _ => 0))), ((qa 56), .inl (k 1, 6, .inl (fun _ => 0))), ((qa 57), .inl (k 1, 6, .inl (fun _ => 0))), ((qa 58), .inl (k 1, 10, .inl (fun _ => 0))), ((qa 59), .inl (k 1, 10, .inl (fun _ => 0))), ((qa 60), .inl (k 1, 10, .inl (fun _ => 0))), ((qa 61), .inr (8, [.ref (qa 62), .ref (qa 63), .ref (qa 64), .ref (qa 65), .ref (qa 66), .ref (qa 67), .ref (qa 68), .int 0, .int (-1), .int 0, .int 0])), ((qa 62), .inl (k 1, 6, .inl (gs 6))), ((qa 63), .inl (k 1, 6, .inl (fun _ => 0))), ((qa 64), .inl (k 1, 6, .inl (fun _ => 0))), ((qa 65), .inl (k 1, 6, .inl (fun _ => 0))), ((qa 66), .inl (k 1, 10, .inl (fun _ => 0))), ((qa 67), .inl (k 1, 10, .inl (fun _ => 0))), ((qa 68), .inl (k 1, 10, .inl (fun _ => 0))), ((ma 22), .inl (k 1, 1320, .inl (mg 22))), ((ma 24), .inl (k 3, 4, .inl (mg 24)))]) (va_runV (As := [.int (xs 1), .int 1]) (rest := [.int 0]) ⟨hx, hb, hml, hown, hts⟩ (c_m_mark_lo l D k _ ma (xs 1) 1 cA) (cwV 2 hts lg_97 rfl rfl rfl (by decide +kernel) ⟨Nat.le_of_ble_eq_true rfl, Nat.le_of_ble_eq_true rfl⟩) (pV hK hN hP hD [40] rfl (by decide) rfl 40 rfl rfl) rfl rfl hl.1 rfl (lv_room (Nat.le_of_ble_eq_true rfl)) dL_law_1454 ⟨by decide, by decide⟩) hP hD hS hA [40] [0, 1, 2, 3, 4, 5, 6, 7, 8, 9, 10, 11, 12, 13, 14, 15, 16, 17, 18, 19, 20, 21, 22, 23, 24, 25, 26, 27, 28, 29, 30, 31, 32, 33, 34, 35, 36, 37, 38, 39, 41, 42] rfl rfl (by decide) (by decide) (fun rx20 ux18 H locs wx19 hP hD hS => ?_)
      have hx21 : rx20 = 0 := wx19
      subst hx21
      have hP : va_P D vwCl [((qa 9), .inr (8, [.ref (qa 10), .ref (qa 11), .ref (qa 12), .ref (qa 13), .ref (qa 14), .ref (qa 15), .ref (qa 16), .int 0, .int (-1), .int 0, .int 0])), ((qa 10), .inl (k 1, 6, .inl (gs 0))), ((qa 11), .inl (k 1, 6, .inl (fun _ => 0))), ((qa 12), .inl (k 1, 6, .inl (fun _ => 0))), ((qa 13), .inl (k 1, 6, .inl (fun _ => 0))), ((qa 14), .inl (k 1, 10, .inl (fun _ => 0))), ((qa 15), .inl (k 1, 10, .inl (fun _ => 0))), ((qa 16), .inl (k 1, 10, .inl (fun _ => 0))), ((qa 37), .inr (8, [.ref (qa 38), .ref (qa 39), .ref (qa 40), .ref (qa 41), .ref (qa 42), .ref (qa 43), .ref (qa 44), .int 0, .int (-1), .int 0, .int 0])), ((qa 38), .inl (k 1, 6, .inl (gs 3))), ((qa 39), .inl (k 1, 6, .inl (fun _ => 0))), ((qa 40), .inl (k 1, 6, .inl (fun _ => 0))), ((qa 41), .inl (k 1, 6, .inl (fun _ => 0))), ((qa 42), .inl (k 1, 10, .inl (fun _ => 0))), ((qa 43), .inl (k 1, 10, .inl (fun _ => 0))), ((qa 44), .inl (k 1, 10, .inl (fun _ => 0))), ((qa 45), .inr (8, [.ref (qa 46), .ref (qa 47), .ref (qa 48), .ref (qa 49), .ref (qa 50), .ref (qa 51), .ref (qa 52), .int 0, .int (-1), .int 0, .int 0])), ((qa 46), .inl (k 1, 6, .inl (gs 4))), ((qa 47), .inl (k 1, 6, .inl (fun _ => 0))), ((qa 48), .inl (k 1, 6, .inl (fun _ => 0))), ((qa 49), .inl (k 1, 6, .inl (fun _ => 0))), ((qa 50), .inl (k 1, 10, .inl (fun _ => 0))), ((qa 51), .inl (k 1, 10, .inl (fun _ => 0))), ((qa 52), .inl (k 1, 10, .inl (fun _ => 0))), ((qa 53), .inr (8, [.ref (qa 54), .ref (qa 55), .ref (qa 56), .ref (qa 57), .ref (qa 58), .ref (qa 59), .ref (qa 60), .int 0, .int (-1), .int 0, .int 0])), ((qa 54), .inl (k 1, 6, .inl (gs 5))), ((qa 55), .inl (k 1, 6, .inl (fun _ => 0))), ((qa 56), .inl (k 1, 6, .inl (fun _ => 0))), ((qa 57), .inl (k 1, 6, .inl (fun _ => 0))), ((qa 58), .inl (k 1, 10, .inl (fun _ => 0))), ((qa 59), .inl (k 1, 10, .inl (fun _ => 0))), ((qa 60), .inl (k 1, 10, .inl (fun _ => 0))), ((qa 61), .inr (8, [.ref (qa 62), .ref (qa 63), .ref (qa 64), .ref (qa 65), .ref (qa 66), .ref (qa 67), .ref (qa 68), .int 0, .int (-1), .int 0, .int 0])), ((qa 62), .inl (k 1, 6, .inl (gs 6))), ((qa 63), .inl (k 1, 6, .inl (fun _ => 0))), ((qa 64), .inl (k 1, 6, .inl (fun _ => 0))), ((qa 65), .inl (k 1, 6, .inl (fun _ => 0))), ((qa 66), .inl (k 1, 10, .inl (fun _ => 0))), ((qa 67), .inl (k 1, 10, .inl (fun _ => 0))), ((qa 68), .inl (k 1, 10, .inl (fun _ => 0))), ((ma 22), .inl (k 1, 1320, .inl (mg 22))), ((ma 24), .inl (k 3, 4, .inl (mg 24)))] H := hP
      have hD : va_D A [((qa 9), .inr (8, [.ref (qa 10), .ref (qa 11), .ref (qa 12), .ref (qa 13), .ref (qa 14), .ref (qa 15), .ref (qa 16), .int 0, .int (-1), .int 0, .int 0])), ((qa 10), .inl (k 1, 6, .inl (gs 0))), ((qa 11), .inl (k 1, 6, .inl (fun _ => 0))), ((qa 12), .inl (k 1, 6, .inl (fun _ => 0))), ((qa 13), .inl (k 1, 6, .inl (fun _ => 0))), ((qa 14), .inl (k 1, 10, .inl (fun _ => 0))), ((qa 15), .inl (k 1, 10, .inl (fun _ => 0))), ((qa 16), .inl (k 1, 10, .inl (fun _ => 0))), ((qa 37), .inr (8, [.ref (qa 38), .ref (qa 39), .ref (qa 40), .ref (qa 41), .ref (qa 42), .ref (qa 43), .ref (qa 44), .int 0, .int (-1), .int 0, .int 0])), ((qa 38), .inl (k 1, 6, .inl (gs 3))), ((qa 39), .inl (k 1, 6, .inl (fun _ => 0))), ((qa 40), .inl (k 1, 6, .inl (fun _ => 0))), ((qa 41), .inl (k 1, 6, .inl (fun _ => 0))), ((qa 42), .inl (k 1, 10, .inl (fun _ => 0))), ((qa 43), .inl (k 1, 10, .inl (fun _ => 0))), ((qa 44), .inl (k 1, 10, .inl (fun _ => 0))), ((qa 45), .inr (8, [.ref (qa 46), .ref (qa 47), .ref (qa 48), .ref (qa 49), .ref (qa 50), .ref (qa 51), .ref (qa 52), .int 0, .int (-1), .int 0, .int 0])), ((qa 46), .inl (k 1, 6, .inl (gs 4))), ((qa 47), .inl (k 1, 6, .inl (fun _ => 0))), ((qa 48), .inl (k 1, 6, .inl (fun _ => 0))), ((qa 49), .inl (k 1, 6, .inl (fun _ => 0))), ((qa 50), .inl (k 1, 10, .inl (fun _ => 0))), ((qa 51), .inl (k 1, 10, .inl (fun _ => 0))), ((qa 52), .inl (k 1, 10, .inl (fun _ => 0))), ((qa 53), .inr (8, [.ref (qa 54), .ref (qa 55), .ref (qa 56), .ref (qa 57), .ref (qa 58), .ref (qa 59), .ref (qa 60), .int 0, .int (-1), .int 0, .int 0])), ((qa 54), .inl (k 1, 6, .inl (gs 5))), ((qa 55), .inl (k 1, 6, .inl (fun _ => 0))), ((qa 56), .inl (k 1, 6, .inl (fun _ => 0))), ((qa 57), .inl (k 1, 6, .inl (fun _ => 0))), ((qa 58), .inl (k 1, 10, .inl (fun _ => 0))), ((qa 59), .inl (k 1, 10, .inl (fun _ => 0))), ((qa 60), .inl (k 1, 10, .inl (fun _ => 0))), ((qa 61), .inr (8, [.ref (qa 62), .ref (qa 63), .ref (qa 64), .ref (qa 65), .ref (qa 66), .ref (qa 67), .ref (qa 68), .int 0, .int (-1), .int 0, .int 0])), ((qa 62), .inl (k 1, 6, .inl (gs 6))), ((qa 63), .inl (k 1, 6, .inl (fun _ => 0))), ((qa 64), .inl (k 1, 6, .inl (fun _ => 0))), ((qa 65), .inl (k 1, 6, .inl (fun _ => 0))), ((qa 66), .inl (k 1, 10, .inl (fun _ => 0))), ((qa 67), .inl (k 1, 10, .inl (fun _ => 0))), ((qa 68), .inl (k 1, 10, .inl (fun _ => 0))), ((ma 22), .inl (k 1, 1320, .inl (mg 22))), ((ma 24), .inl (k 3, 4, .inl (mg 24)))] := hD
      refine lv_icmp_eq (tgt := 1487) hx hb dL_law_1457 (by decide) (fun cx22 => ?_) (fun h9 => absurd (by decide) h9)
      refine lv_iinc (v := 7) (lv' := [(4, .int 7), (3, .ref out), (2, .ref (ma 0)), (1, .ref (qa 0)), (0, .ref b)]) hx hb dL_law_1487 hl (k := 0) rfl (by decide) (by decide) rfl (fun ls hl => ?_)
      refine lv_goto (tgt := 23) hx hb dL_law_1490 (by decide) ?_
      refine lv_iload hx hb dL_law_23 (lv_at hl 0 rfl) ?_
      refine lv_aload_n hx hb dL_law_25 rfl (lv_at hl 4 rfl) ?_
      refine va_slen hx hb hX hbl hbA hS dL_law_26 ?_
      refine p_topI (v := 7) (by decide) ?_
      refine lv_bipush (v := 7) hx hb dL_law_27 (by decide) ?_
      refine lv_isub hx hb dL_law_29 ?_
      refine p_topI (v := 0) (by decide) ?_
      refine lv_icmp_gt (tgt := 1493) hx hb dL_law_30 (by decide) (fun cx23 => ?_) (fun h9 => absurd (by decide) h9)
      refine lv_iconst (v := 1) hx hb dL_law_1493 (by decide) ?_
      refine va_forget (fun q hq => hAf _ (hS.2.2 q hq)) ?_
      refine W.widen (k := 600002) (n := 7302232) (by decide) (by decide) ?_
      exact lw_ret hx hb hr hlocks dL_law_1494
  by_cases cB : 3 < (xs 1)
  · skip
    refine lv_aload_n hx hb dL_law_1409 rfl (lv_at hl 3 rfl) ?_
    refine lv_aload_n hx hb dL_law_1410 rfl (lv_at hl 4 rfl) ?_
    refine lv_iload hx hb dL_law_1411 (lv_at hl 0 rfl) ?_
    refine lv_iconst (v := 1) hx hb dL_law_1413 (by decide) ?_
    refine lv_iadd hx hb dL_law_1414 ?_
    refine p_topI (v := 1) (by decide) ?_
    refine va_sld hx hb hX hbl hbA hS (show ¬ (_ ∨ _) by decide) dL_law_1415 ?_
    refine p_topI (v := (xs 1)) rfl ?_
    refine lv_aload_n hx hb dL_law_1416 rfl (lv_at hl 4 rfl) ?_
    refine lv_iload hx hb dL_law_1417 (lv_at hl 0 rfl) ?_
    refine lv_iconst (v := 2) hx hb dL_law_1419 (by decide) ?_
    refine lv_iadd hx hb dL_law_1420 ?_
    refine p_topI (v := 2) (by decide) ?_
    refine va_sld hx hb hX hbl hbA hS (show ¬ (_ ∨ _) by decide) dL_law_1421 ?_
    refine p_topI (v := (xs 2)) rfl ?_
    refine lv_if_eq (tgt := 1429) hx hb dL_law_1422 (by decide) (fun cx24 => ?_) (fun cx24 => ?_)
    · skip
      refine lv_iconst (v := 0) hx hb dL_law_1429 (by decide) ?_
      refine p_ji (wr := [((qa 9), .inr (8, [.ref (qa 10), .ref (qa 11), .ref (qa 12), .ref (qa 13), .ref (qa 14), .ref (qa 15), .ref (qa 16), .int 0, .int (-1), .int 0, .int 0])), ((qa 10), .inl (k 1, 6, .inl (gs 0))), ((qa 11), .inl (k 1, 6, .inl (fun _ => 0))), ((qa 12), .inl (k 1, 6, .inl (fun _ => 0))), ((qa 13), .inl (k 1, 6, .inl (fun _ => 0))), ((qa 14), .inl (k 1, 10, .inl (fun _ => 0))), ((qa 15), .inl (k 1, 10, .inl (fun _ => 0))), ((qa 16), .inl (k 1, 10, .inl (fun _ => 0))), ((qa 37), .inr (8, [.ref (qa 38), .ref (qa 39), .ref (qa 40), .ref (qa 41), .ref (qa 42), .ref (qa 43), .ref (qa 44), .int 0, .int (-1), .int 0, .int 0])), ((qa 38), .inl (k 1, 6, .inl (gs 3))), ((qa 39), .inl (k 1, 6, .inl (fun _ => 0))), ((qa 40), .inl (k 1, 6, .inl (fun _ => 0))), ((qa 41), .inl (k 1, 6, .inl (fun _ => 0))), ((qa 42), .inl (k 1, 10, .inl (fun _ => 0))), ((qa 43), .inl (k 1, 10, .inl (fun _ => 0))), ((qa 44), .inl (k 1, 10, .inl (fun _ => 0))), ((qa 45), .inr (8, [.ref (qa 46), .ref (qa 47), .ref (qa 48), .ref (qa 49), .ref (qa 50), .ref (qa 51), .ref (qa 52), .int 0, .int (-1), .int 0, .int 0])), ((qa 46), .inl (k 1, 6, .inl (gs 4))), ((qa 47), .inl (k 1, 6, .inl (fun _ => 0))), ((qa 48), .inl (k 1, 6, .inl (fun _ => 0))), ((qa 49), .inl (k 1, 6, .inl (fun _ => 0))), ((qa 50), .inl (k 1, 10, .inl (fun _ => 0))), ((qa 51), .inl (k 1, 10, .inl (fun _ => 0))), ((qa 52), .inl (k 1, 10, .inl (fun _ => 0))), ((qa 53), .inr (8, [.ref (qa 54), .ref (qa 55), .ref (qa 56), .ref (qa 57), .ref (qa 58), .ref (qa 59), .ref (qa 60), .int 0, .int (-1), .int 0, .int 0])), ((qa 54), .inl (k 1, 6, .inl (gs 5))), ((qa 55), .inl (k 1, 6, .inl (fun _ => 0))), ((qa 56), .inl (k 1, 6, .inl (fun _ => 0))), ((qa 57), .inl (k 1, 6, .inl (fun _ => 0))), ((qa 58), .inl (k 1, 10, .inl (fun _ => 0))), ((qa 59), .inl (k 1, 10, .inl (fun _ => 0))), ((qa 60), .inl (k 1, 10, .inl (fun _ => 0))), ((qa 61), .inr (8, [.ref (qa 62), .ref (qa 63), .ref (qa 64), .ref (qa 65), .ref (qa 66), .ref (qa 67), .ref (qa 68), .int 0, .int (-1), .int 0, .int 0])), ((qa 62), .inl (k 1, 6, .inl (gs 6))), ((qa 63), .inl (k 1, 6, .inl (fun _ => 0))), ((qa 64), .inl (k 1, 6, .inl (fun _ => 0))), ((qa 65), .inl (k 1, 6, .inl (fun _ => 0))), ((qa 66), .inl (k 1, 10, .inl (fun _ => 0))), ((qa 67), .inl (k 1, 10, .inl (fun _ => 0))), ((qa 68), .inl (k 1, 10, .inl (fun _ => 0))), ((ma 0), .inr (10, [.int 0, .ref (ma 1), .int 0, .int 0, .ref (ma 4), .ref (ma 5), .ref (ma 6), .int 0, .int 0, .ref (ma 9), .ref (ma 10), .ref (ma 11), .ref (ma 12), .int 0, .ref (ma 14), .ref (ma 15), .int 0, .int 0, .ref (ma 18), .ref (ma 19), .ref (ma 20), .ref (ma 21), .ref (ma 22), .int 0, .ref (ma 24), .int 0, .ref (ma 26), .int 0, .int 0, .int 0, .int 0, .ref (ma 31), .ref (ma 32), .ref (ma 33), .ref (ma 34), .ref (ma 35), .int 0, .int 0, .ref (ma 38), .ref (ma 39), .ref (ma 40), .long 0])), ((ma 22), .inl (k 1, 1320, .inl (mg 22))), ((ma 24), .inl (k 3, 4, .inl (mg 24)))]) (va_runV (As := [.int (xs 1), .int 0]) (rest := []) ⟨hx, hb, hml, hown, hts⟩ (c_mark_hi l D k _ qa (xs 1) 0 cB) (cwV 2 hts lg_98 rfl rfl rfl (by decide +kernel) ⟨Nat.le_of_ble_eq_true rfl, Nat.le_of_ble_eq_true rfl⟩) (pV hK hN hP hD [0, 9] rfl (by decide) rfl 0 rfl rfl) rfl rfl hl.1 rfl (lv_room (Nat.le_of_ble_eq_true rfl)) dL_law_1430 ⟨by decide, by decide⟩) hP hD hS hA [0, 9] [1, 2, 3, 4, 5, 6, 7, 8, 10, 11, 12, 13, 14, 15, 16, 17, 18, 19, 20, 21, 22, 23, 24, 25, 26, 27, 28, 29, 30, 31, 32, 33, 34, 35, 36, 37, 38, 39, 40, 41, 42, 43, 44] rfl rfl (by decide) (by decide) (fun rx27 ux25 H locs wx26 hP hD hS => ?_)
      have hx28 : rx27 = 0 := wx26
      subst hx28
      have hP : va_P D vwCl [((qa 9), .inr (8, [.ref (qa 10), .ref (qa 11), .ref (qa 12), .ref (qa 13), .ref (qa 14), .ref (qa 15), .ref (qa 16), .int 0, .int (-1), .int 0, .int 0])), ((qa 10), .inl (k 1, 6, .inl (gs 0))), ((qa 11), .inl (k 1, 6, .inl (fun _ => 0))), ((qa 12), .inl (k 1, 6, .inl (fun _ => 0))), ((qa 13), .inl (k 1, 6, .inl (fun _ => 0))), ((qa 14), .inl (k 1, 10, .inl (fun _ => 0))), ((qa 15), .inl (k 1, 10, .inl (fun _ => 0))), ((qa 16), .inl (k 1, 10, .inl (fun _ => 0))), ((qa 37), .inr (8, [.ref (qa 38), .ref (qa 39), .ref (qa 40), .ref (qa 41), .ref (qa 42), .ref (qa 43), .ref (qa 44), .int 0, .int (-1), .int 0, .int 0])), ((qa 38), .inl (k 1, 6, .inl (gs 3))), ((qa 39), .inl (k 1, 6, .inl (fun _ => 0))), ((qa 40), .inl (k 1, 6, .inl (fun _ => 0))), ((qa 41), .inl (k 1, 6, .inl (fun _ => 0))), ((qa 42), .inl (k 1, 10, .inl (fun _ => 0))), ((qa 43), .inl (k 1, 10, .inl (fun _ => 0))), ((qa 44), .inl (k 1, 10, .inl (fun _ => 0))), ((qa 45), .inr (8, [.ref (qa 46), .ref (qa 47), .ref (qa 48), .ref (qa 49), .ref (qa 50), .ref (qa 51), .ref (qa 52), .int 0, .int (-1), .int 0, .int 0])), ((qa 46), .inl (k 1, 6, .inl (gs 4))), ((qa 47), .inl (k 1, 6, .inl (fun _ => 0))), ((qa 48), .inl (k 1, 6, .inl (fun _ => 0))), ((qa 49), .inl (k 1, 6, .inl (fun _ => 0))), ((qa 50), .inl (k 1, 10, .inl (fun _ => 0))), ((qa 51), .inl (k 1, 10, .inl (fun _ => 0))), ((qa 52), .inl (k 1, 10, .inl (fun _ => 0))), ((qa 53), .inr (8, [.ref (qa 54), .ref (qa 55), .ref (qa 56), .ref (qa 57), .ref (qa 58), .ref (qa 59), .ref (qa 60), .int 0, .int (-1), .int 0, .int 0])), ((qa 54), .inl (k 1, 6, .inl (gs 5))), ((qa 55), .inl (k 1, 6, .inl (fun _ => 0))), ((qa 56), .inl (k 1, 6, .inl (fun _ => 0))), ((qa 57), .inl (k 1, 6, .inl (fun _ => 0))), ((qa 58), .inl (k 1, 10, .inl (fun _ => 0))), ((qa 59), .inl (k 1, 10, .inl (fun _ => 0))), ((qa 60), .inl (k 1, 10, .inl (fun _ => 0))), ((qa 61), .inr (8, [.ref (qa 62), .ref (qa 63), .ref (qa 64), .ref (qa 65), .ref (qa 66), .ref (qa 67), .ref (qa 68), .int 0, .int (-1), .int 0, .int 0])), ((qa 62), .inl (k 1, 6, .inl (gs 6))), ((qa 63), .inl (k 1, 6, .inl (fun _ => 0))), ((qa 64), .inl (k 1, 6, .inl (fun _ => 0))), ((qa 65), .inl (k 1, 6, .inl (fun _ => 0))), ((qa 66), .inl (k 1, 10, .inl (fun _ => 0))), ((qa 67), .inl (k 1, 10, .inl (fun _ => 0))), ((qa 68), .inl (k 1, 10, .inl (fun _ => 0))), ((ma 0), .inr (10, [.int 0, .ref (ma 1), .int 0, .int 0, .ref (ma 4), .ref (ma 5), .ref (ma 6), .int 0, .int 0, .ref (ma 9), .ref (ma 10), .ref (ma 11), .ref (ma 12), .int 0, .ref (ma 14), .ref (ma 15), .int 0, .int 0, .ref (ma 18), .ref (ma 19), .ref (ma 20), .ref (ma 21), .ref (ma 22), .int 0, .ref (ma 24), .int 0, .ref (ma 26), .int 0, .int 0, .int 0, .int 0, .ref (ma 31), .ref (ma 32), .ref (ma 33), .ref (ma 34), .ref (ma 35), .int 0, .int 0, .ref (ma 38), .ref (ma 39), .ref (ma 40), .long 0])), ((ma 22), .inl (k 1, 1320, .inl (mg 22))), ((ma 24), .inl (k 3, 4, .inl (mg 24)))] H := hP
      have hD : va_D A [((qa 9), .inr (8, [.ref (qa 10), .ref (qa 11), .ref (qa 12), .ref (qa 13), .ref (qa 14), .ref (qa 15), .ref (qa 16), .int 0, .int (-1), .int 0, .int 0])), ((qa 10), .inl (k 1, 6, .inl (gs 0))), ((qa 11), .inl (k 1, 6, .inl (fun _ => 0))), ((qa 12), .inl (k 1, 6, .inl (fun _ => 0))), ((qa 13), .inl (k 1, 6, .inl (fun _ => 0))), ((qa 14), .inl (k 1, 10, .inl (fun _ => 0))), ((qa 15), .inl (k 1, 10, .inl (fun _ => 0))), ((qa 16), .inl (k 1, 10, .inl (fun _ => 0))), ((qa 37), .inr (8, [.ref (qa 38), .ref (qa 39), .ref (qa 40), .ref (qa 41), .ref (qa 42), .ref (qa 43), .ref (qa 44), .int 0, .int (-1), .int 0, .int 0])), ((qa 38), .inl (k 1, 6, .inl (gs 3))), ((qa 39), .inl (k 1, 6, .inl (fun _ => 0))), ((qa 40), .inl (k 1, 6, .inl (fun _ => 0))), ((qa 41), .inl (k 1, 6, .inl (fun _ => 0))), ((qa 42), .inl (k 1, 10, .inl (fun _ => 0))), ((qa 43), .inl (k 1, 10, .inl (fun _ => 0))), ((qa 44), .inl (k 1, 10, .inl (fun _ => 0))), ((qa 45), .inr (8, [.ref (qa 46), .ref (qa 47), .ref (qa 48), .ref (qa 49), .ref (qa 50), .ref (qa 51), .ref (qa 52), .int 0, .int (-1), .int 0, .int 0])), ((qa 46), .inl (k 1, 6, .inl (gs 4))), ((qa 47), .inl (k 1, 6, .inl (fun _ => 0))), ((qa 48), .inl (k 1, 6, .inl (fun _ => 0))), ((qa 49), .inl (k 1, 6, .inl (fun _ => 0))), ((qa 50), .inl (k 1, 10, .inl (fun _ => 0))), ((qa 51), .inl (k 1, 10, .inl (fun _ => 0))), ((qa 52), .inl (k 1, 10, .inl (fun _ => 0))), ((qa 53), .inr (8, [.ref (qa 54), .ref (qa 55), .ref (qa 56), .ref (qa 57), .ref (qa 58), .ref (qa 59), .ref (qa 60), .int 0, .int (-1), .int 0, .int 0])), ((qa 54), .inl (k 1, 6, .inl (gs 5))), ((qa 55), .inl (k 1, 6, .inl (fun _ => 0))), ((qa 56), .inl (k 1, 6, .inl (fun _ => 0))), ((qa 57), .inl (k 1, 6, .inl (fun _ => 0))), ((qa 58), .inl (k 1, 10, .inl (fun _ => 0))), ((qa 59), .inl (k 1, 10, .inl (fun _ => 0))), ((qa 60), .inl (k 1, 10, .inl (fun _ => 0))), ((qa 61), .inr (8, [.ref (qa 62), .ref (qa 63), .ref (qa 64), .ref (qa 65), .ref (qa 66), .ref (qa 67), .ref (qa 68), .int 0, .int (-1), .int 0, .int 0])), ((qa 62), .inl (k 1, 6, .inl (gs 6))), ((qa 63), .inl (k 1, 6, .inl (fun _ => 0))), ((qa 64), .inl (k 1, 6, .inl (fun _ => 0))), ((qa 65), .inl (k 1, 6, .inl (fun _ => 0))), ((qa 66), .inl (k 1, 10, .inl (fun _ => 0))), ((qa 67), .inl (k 1, 10, .inl (fun _ => 0))), ((qa 68), .inl (k 1, 10, .inl (fun _ => 0))), ((ma 0), .inr (10, [.int 0, .ref (ma 1), .int 0, .int 0, .ref (ma 4), .ref (ma 5), .ref (ma 6), .int 0, .int 0, .ref (ma 9), .ref (ma 10), .ref (ma 11), .ref (ma 12), .int 0, .ref (ma 14), .ref (ma 15), .int 0, .int 0, .ref (ma 18), .ref (ma 19), .ref (ma 20), .ref (ma 21), .ref (ma 22), .int 0, .ref (ma 24), .int 0, .ref (ma 26), .int 0, .int 0, .int 0, .int 0, .ref (ma 31), .ref (ma 32), .ref (ma 33), .ref (ma 34), .ref (ma 35), .int 0, .int 0, .ref (ma 38), .ref (ma 39), .ref (ma 40), .long 0])), ((ma 22), .inl (k 1, 1320, .inl (mg 22))), ((ma 24), .inl (k 3, 4, .inl (mg 24)))] := hD
      refine lv_aload_n hx hb dL_law_1433 rfl (lv_at hl 2 rfl) ?_
      refine lv_aload_n hx hb dL_law_1434 rfl (lv_at hl 4 rfl) ?_
      refine lv_iload hx hb dL_law_1435 (lv_at hl 0 rfl) ?_
      refine lv_iconst (v := 1) hx hb dL_law_1437 (by decide) ?_
      refine lv_iadd hx hb dL_law_1438 ?_
      refine p_topI (v := 1) (by decide) ?_
      refine va_sld hx hb hX hbl hbA hS (show ¬ (_ ∨ _) by decide) dL_law_1439 ?_
      refine p_topI (v := (xs 1)) rfl ?_
      refine lv_aload_n hx hb dL_law_1440 rfl (lv_at hl 4 rfl) ?_
      refine lv_iload hx hb dL_law_1441 (lv_at hl 0 rfl) ?_
      refine lv_iconst (v := 2) hx hb dL_law_1443 (by decide) ?_
      refine lv_iadd hx hb dL_law_1444 ?_
      refine p_topI (v := 2) (by decide) ?_
      refine va_sld hx hb hX hbl hbA hS (show ¬ (_ ∨ _) by decide) dL_law_1445 ?_
      refine p_topI (v := 0) cx24 ?_
      refine lv_if_eq (tgt := 1453) hx hb dL_law_1446 (by decide) (fun cx29 => ?_) (fun h9 => absurd (by decide) h9)
      refine lv_iconst (v := 0) hx hb dL_law_1453 (by decide) ?_
      refine p_ji (wr := [((qa 9), .inr (8, [.ref (qa 10), .ref (qa 11), .ref (qa 12), .ref (qa 13), .ref (qa 14), .ref (qa 15), .ref (qa 16), .int 0, .int (-1), .int 0, .int 0])), ((qa 10), .inl (k 1, 6, .inl (gs 0))), ((qa 11), .inl (k 1, 6, .inl (fun _ => 0))), ((qa 12), .inl (k 1, 6, .inl (fun _ => 0))), ((qa 13), .inl (k 1, 6, .inl (fun _ => 0))), ((qa 14), .inl (k 1, 10, .inl (fun _ => 0))), ((qa 15), .inl (k 1, 10, .inl (fun _ => 0))), ((qa 16), .inl (k 1, 10, .inl (fun _ => 0))), ((qa 37), .inr (8, [.ref (qa 38), .ref (qa 39), .ref (qa 40), .ref (qa 41), .ref (qa 42), .ref (qa 43), .ref (qa 44), .int 0, .int (-1), .int 0, .int 0])), ((qa 38), .inl (k 1, 6, .inl (gs 3))), ((qa 39), .inl (k 1, 6, .inl (fun _ => 0))), ((qa 40), .inl (k 1, 6, .inl (fun _ => 0))), ((qa 41), .inl (k 1, 6, .inl (fun _ => 0))), ((qa 42), .inl (k 1, 10, .inl (fun _ => 0))), ((qa 43), .inl (k 1, 10, .inl (fun _ => 0))), ((qa 44), .inl (k 1, 10, .inl (fun _ => 0))), ((qa 45), .inr (8, [.ref (qa 46), .ref (qa 47), .ref (qa 48), .ref (qa 49), .ref (qa 50), .ref (qa 51), .ref (qa 52), .int 0, .int (-1), .int 0, .int 0])), ((qa 46), .inl (k 1, 6, .inl (gs 4))), ((qa 47), .inl (k 1, 6, .inl (fun _ => 0))), ((qa 48), .inl (k 1, 6, .inl (fun _ => 0))), ((qa 49), .inl (k 1, 6, .inl (fun _ => 0))), ((qa 50), .inl (k 1, 10, .inl (fun _ => 0))), ((qa 51), .inl (k 1, 10, .inl (fun _ => 0))), ((qa 52), .inl (k 1, 10, .inl (fun _ => 0))), ((qa 53), .inr (8, [.ref (qa 54), .ref (qa 55), .ref (qa 56), .ref (qa 57), .ref (qa 58), .ref (qa 59), .ref (qa 60), .int 0, .int (-1), .int 0, .int 0])), ((qa 54), .inl (k 1, 6, .inl (gs 5))), ((qa 55), .inl (k 1, 6, .inl (fun _ => 0))), ((qa 56), .inl (k 1, 6, .inl (fun _ => 0))), ((qa 57), .inl (k 1, 6, .inl (fun _ => 0))), ((qa 58), .inl (k 1, 10, .inl (fun _ => 0))), ((qa 59), .inl (k 1, 10, .inl (fun _ => 0))), ((qa 60), .inl (k 1, 10, .inl (fun _ => 0))), ((qa 61), .inr (8, [.ref (qa 62), .ref (qa 63), .ref (qa 64), .ref (qa 65), .ref (qa 66), .ref (qa 67), .ref (qa 68), .int 0, .int (-1), .int 0, .int 0])), ((qa 62), .inl (k 1, 6, .inl (gs 6))), ((qa 63), .inl (k 1, 6, .inl (fun _ => 0))), ((qa 64), .inl (k 1, 6, .inl (fun _ => 0))), ((qa 65), .inl (k 1, 6, .inl (fun _ => 0))), ((qa 66), .inl (k 1, 10, .inl (fun _ => 0))), ((qa 67), .inl (k 1, 10, .inl (fun _ => 0))), ((qa 68), .inl (k 1, 10, .inl (fun _ => 0))), ((ma 22), .inl (k 1, 1320, .inl (mg 22))), ((ma 24), .inl (k 3, 4, .inl (mg 24)))]) (va_runV (As := [.int (xs 1), .int 0]) (rest := [.int 0]) ⟨hx, hb, hml, hown, hts⟩ (c_m_mark_hi l D k _ ma (xs 1) 0 cB) (cwV 2 hts lg_99 rfl rfl rfl (by decide +kernel) ⟨Nat.le_of_ble_eq_true rfl, Nat.le_of_ble_eq_true rfl⟩) (pV hK hN hP hD [40] rfl (by decide) rfl 40 rfl rfl) rfl rfl hl.1 rfl (lv_room (Nat.le_of_ble_eq_true rfl)) dL_law_1454 ⟨by decide, by decide⟩) hP hD hS hA [40] [0, 1, 2, 3, 4, 5, 6, 7, 8, 9, 10, 11, 12, 13, 14, 15, 16, 17, 18, 19, 20, 21, 22, 23, 24, 25, 26, 27, 28, 29, 30, 31, 32, 33, 34, 35, 36, 37, 38, 39, 41, 42] rfl rfl (by decide) (by decide) (fun rx32 ux30 H locs wx31 hP hD hS => ?_)
      have hx33 : rx32 = 0 := wx31
      subst hx33
      have hP : va_P D vwCl [((qa 9), .inr (8, [.ref (qa 10), .ref (qa 11), .ref (qa 12), .ref (qa 13), .ref (qa 14), .ref (qa 15), .ref (qa 16), .int 0, .int (-1), .int 0, .int 0])), ((qa 10), .inl (k 1, 6, .inl (gs 0))), ((qa 11), .inl (k 1, 6, .inl (fun _ => 0))), ((qa 12), .inl (k 1, 6, .inl (fun _ => 0))), ((qa 13), .inl (k 1, 6, .inl (fun _ => 0))), ((qa 14), .inl (k 1, 10, .inl (fun _ => 0))), ((qa 15), .inl (k 1, 10, .inl (fun _ => 0))), ((qa 16), .inl (k 1, 10, .inl (fun _ => 0))), ((qa 37), .inr (8, [.ref (qa 38), .ref (qa 39), .ref (qa 40), .ref (qa 41), .ref (qa 42), .ref (qa 43), .ref (qa 44), .int 0, .int (-1), .int 0, .int 0])), ((qa 38), .inl (k 1, 6, .inl (gs 3))), ((qa 39), .inl (k 1, 6, .inl (fun _ => 0))), ((qa 40), .inl (k 1, 6, .inl (fun _ => 0))), ((qa 41), .inl (k 1, 6, .inl (fun _ => 0))), ((qa 42), .inl (k 1, 10, .inl (fun _ => 0))), ((qa 43), .inl (k 1, 10, .inl (fun _ => 0))), ((qa 44), .inl (k 1, 10, .inl (fun _ => 0))), ((qa 45), .inr (8, [.ref (qa 46), .ref (qa 47), .ref (qa 48), .ref (qa 49), .ref (qa 50), .ref (qa 51), .ref (qa 52), .int 0, .int (-1), .int 0, .int 0])), ((qa 46), .inl (k 1, 6, .inl (gs 4))), ((qa 47), .inl (k 1, 6, .inl (fun _ => 0))), ((qa 48), .inl (k 1, 6, .inl (fun _ => 0))), ((qa 49), .inl (k 1, 6, .inl (fun _ => 0))), ((qa 50), .inl (k 1, 10, .inl (fun _ => 0))), ((qa 51), .inl (k 1, 10, .inl (fun _ => 0))), ((qa 52), .inl (k 1, 10, .inl (fun _ => 0))), ((qa 53), .inr (8, [.ref (qa 54), .ref (qa 55), .ref (qa 56), .ref (qa 57), .ref (qa 58), .ref (qa 59), .ref (qa 60), .int 0, .int (-1), .int 0, .int 0])), ((qa 54), .inl (k 1, 6, .inl (gs 5))), ((qa 55), .inl (k 1, 6, .inl (fun _ => 0))), ((qa 56), .inl (k 1, 6, .inl (fun _ => 0))), ((qa 57), .inl (k 1, 6, .inl (fun _ => 0))), ((qa 58), .inl (k 1, 10, .inl (fun _ => 0))), ((qa 59), .inl (k 1, 10, .inl (fun _ => 0))), ((qa 60), .inl (k 1, 10, .inl (fun _ => 0))), ((qa 61), .inr (8, [.ref (qa 62), .ref (qa 63), .ref (qa 64), .ref (qa 65), .ref (qa 66), .ref (qa 67), .ref (qa 68), .int 0, .int (-1), .int 0, .int 0])), ((qa 62), .inl (k 1, 6, .inl (gs 6))), ((qa 63), .inl (k 1, 6, .inl (fun _ => 0))), ((qa 64), .inl (k 1, 6, .inl (fun _ => 0))), ((qa 65), .inl (k 1, 6, .inl (fun _ => 0))), ((qa 66), .inl (k 1, 10, .inl (fun _ => 0))), ((qa 67), .inl (k 1, 10, .inl (fun _ => 0))), ((qa 68), .inl (k 1, 10, .inl (fun _ => 0))), ((ma 22), .inl (k 1, 1320, .inl (mg 22))), ((ma 24), .inl (k 3, 4, .inl (mg 24)))] H := hP
      have hD : va_D A [((qa 9), .inr (8, [.ref (qa 10), .ref (qa 11), .ref (qa 12), .ref (qa 13), .ref (qa 14), .ref (qa 15), .ref (qa 16), .int 0, .int (-1), .int 0, .int 0])), ((qa 10), .inl (k 1, 6, .inl (gs 0))), ((qa 11), .inl (k 1, 6, .inl (fun _ => 0))), ((qa 12), .inl (k 1, 6, .inl (fun _ => 0))), ((qa 13), .inl (k 1, 6, .inl (fun _ => 0))), ((qa 14), .inl (k 1, 10, .inl (fun _ => 0))), ((qa 15), .inl (k 1, 10, .inl (fun _ => 0))), ((qa 16), .inl (k 1, 10, .inl (fun _ => 0))), ((qa 37), .inr (8, [.ref (qa 38), .ref (qa 39), .ref (qa 40), .ref (qa 41), .ref (qa 42), .ref (qa 43), .ref (qa 44), .int 0, .int (-1), .int 0, .int 0])), ((qa 38), .inl (k 1, 6, .inl (gs 3))), ((qa 39), .inl (k 1, 6, .inl (fun _ => 0))), ((qa 40), .inl (k 1, 6, .inl (fun _ => 0))), ((qa 41), .inl (k 1, 6, .inl (fun _ => 0))), ((qa 42), .inl (k 1, 10, .inl (fun _ => 0))), ((qa 43), .inl (k 1, 10, .inl (fun _ => 0))), ((qa 44), .inl (k 1, 10, .inl (fun _ => 0))), ((qa 45), .inr (8, [.ref (qa 46), .ref (qa 47), .ref (qa 48), .ref (qa 49), .ref (qa 50), .ref (qa 51), .ref (qa 52), .int 0, .int (-1), .int 0, .int 0])), ((qa 46), .inl (k 1, 6, .inl (gs 4))), ((qa 47), .inl (k 1, 6, .inl (fun _ => 0))), ((qa 48), .inl (k 1, 6, .inl (fun _ => 0))), ((qa 49), .inl (k 1, 6, .inl (fun _ => 0))), ((qa 50), .inl (k 1, 10, .inl (fun _ => 0))), ((qa 51), .inl (k 1, 10, .inl (fun _ => 0))), ((qa 52), .inl (k 1, 10, .inl (fun _ => 0))), ((qa 53), .inr (8, [.ref (qa 54), .ref (qa 55), .ref (qa 56), .ref (qa 57), .ref (qa 58), .ref (qa 59), .ref (qa 60), .int 0, .int (-1), .int 0, .int 0])), ((qa 54), .inl (k 1, 6, .inl (gs 5))), ((qa 55), .inl (k 1, 6, .inl (fun _ => 0))), ((qa 56), .inl (k 1, 6, .inl (fun _ => 0))), ((qa 57), .inl (k 1, 6, .inl (fun _ => 0))), ((qa 58), .inl (k 1, 10, .inl (fun _ => 0))), ((qa 59), .inl (k 1, 10, .inl (fun _ => 0))), ((qa 60), .inl (k 1, 10, .inl (fun _ => 0))), ((qa 61), .inr (8, [.ref (qa 62), .ref (qa 63), .ref (qa 64), .ref (qa 65), .ref (qa 66), .ref (qa 67), .ref (qa 68), .int 0, .int (-1), .int 0, .int 0])), ((qa 62), .inl (k 1, 6, .inl (gs 6))), ((qa 63), .inl (k 1, 6, .inl (fun _ => 0))), ((qa 64), .inl (k 1, 6, .inl (fun _ => 0))), ((qa 65), .inl (k 1, 6, .inl (fun _ => 0))), ((qa 66), .inl (k 1, 10, .inl (fun _ => 0))), ((qa 67), .inl (k 1, 10, .inl (fun _ => 0))), ((qa 68), .inl (k 1, 10, .inl (fun _ => 0))), ((ma 22), .inl (k 1, 1320, .inl (mg 22))), ((ma 24), .inl (k 3, 4, .inl (mg 24)))] := hD
      refine lv_icmp_eq (tgt := 1487) hx hb dL_law_1457 (by decide) (fun cx34 => ?_) (fun h9 => absurd (by decide) h9)
      refine lv_iinc (v := 7) (lv' := [(4, .int 7), (3, .ref out), (2, .ref (ma 0)), (1, .ref (qa 0)), (0, .ref b)]) hx hb dL_law_1487 hl (k := 0) rfl (by decide) (by decide) rfl (fun ls hl => ?_)
      refine lv_goto (tgt := 23) hx hb dL_law_1490 (by decide) ?_
      refine lv_iload hx hb dL_law_23 (lv_at hl 0 rfl) ?_
      refine lv_aload_n hx hb dL_law_25 rfl (lv_at hl 4 rfl) ?_
      refine va_slen hx hb hX hbl hbA hS dL_law_26 ?_
      refine p_topI (v := 7) (by decide) ?_
      refine lv_bipush (v := 7) hx hb dL_law_27 (by decide) ?_
      refine lv_isub hx hb dL_law_29 ?_
      refine p_topI (v := 0) (by decide) ?_
      refine lv_icmp_gt (tgt := 1493) hx hb dL_law_30 (by decide) (fun cx35 => ?_) (fun h9 => absurd (by decide) h9)
      refine lv_iconst (v := 1) hx hb dL_law_1493 (by decide) ?_
      refine va_forget (fun q hq => hAf _ (hS.2.2 q hq)) ?_
      refine W.widen (k := 600002) (n := 7302232) (by decide) (by decide) ?_
      exact lw_ret hx hb hr hlocks dL_law_1494
    · skip
      refine lv_iconst (v := 1) hx hb dL_law_1425 (by decide) ?_
      refine lv_goto (tgt := 1430) hx hb dL_law_1426 (by decide) ?_
      refine p_ji (wr := [((qa 9), .inr (8, [.ref (qa 10), .ref (qa 11), .ref (qa 12), .ref (qa 13), .ref (qa 14), .ref (qa 15), .ref (qa 16), .int 0, .int (-1), .int 0, .int 0])), ((qa 10), .inl (k 1, 6, .inl (gs 0))), ((qa 11), .inl (k 1, 6, .inl (fun _ => 0))), ((qa 12), .inl (k 1, 6, .inl (fun _ => 0))), ((qa 13), .inl (k 1, 6, .inl (fun _ => 0))), ((qa 14), .inl (k 1, 10, .inl (fun _ => 0))), ((qa 15), .inl (k 1, 10, .inl (fun _ => 0))), ((qa 16), .inl (k 1, 10, .inl (fun _ => 0))), ((qa 37), .inr (8, [.ref (qa 38), .ref (qa 39), .ref (qa 40), .ref (qa 41), .ref (qa 42), .ref (qa 43), .ref (qa 44), .int 0, .int (-1), .int 0, .int 0])), ((qa 38), .inl (k 1, 6, .inl (gs 3))), ((qa 39), .inl (k 1, 6, .inl (fun _ => 0))), ((qa 40), .inl (k 1, 6, .inl (fun _ => 0))), ((qa 41), .inl (k 1, 6, .inl (fun _ => 0))), ((qa 42), .inl (k 1, 10, .inl (fun _ => 0))), ((qa 43), .inl (k 1, 10, .inl (fun _ => 0))), ((qa 44), .inl (k 1, 10, .inl (fun _ => 0))), ((qa 45), .inr (8, [.ref (qa 46), .ref (qa 47), .ref (qa 48), .ref (qa 49), .ref (qa 50), .ref (qa 51), .ref (qa 52), .int 0, .int (-1), .int 0, .int 0])), ((qa 46), .inl (k 1, 6, .inl (gs 4))), ((qa 47), .inl (k 1, 6, .inl (fun _ => 0))), ((qa 48), .inl (k 1, 6, .inl (fun _ => 0))), ((qa 49), .inl (k 1, 6, .inl (fun _ => 0))), ((qa 50), .inl (k 1, 10, .inl (fun _ => 0))), ((qa 51), .inl (k 1, 10, .inl (fun _ => 0))), ((qa 52), .inl (k 1, 10, .inl (fun _ => 0))), ((qa 53), .inr (8, [.ref (qa 54), .ref (qa 55), .ref (qa 56), .ref (qa 57), .ref (qa 58), .ref (qa 59), .ref (qa 60), .int 0, .int (-1), .int 0, .int 0])), ((qa 54), .inl (k 1, 6, .inl (gs 5))), ((qa 55), .inl (k 1, 6, .inl (fun _ => 0))), ((qa 56), .inl (k 1, 6, .inl (fun _ => 0))), ((qa 57), .inl (k 1, 6, .inl (fun _ => 0))), ((qa 58), .inl (k 1, 10, .inl (fun _ => 0))), ((qa 59), .inl (k 1, 10, .inl (fun _ => 0))), ((qa 60), .inl (k 1, 10, .inl (fun _ => 0))), ((qa 61), .inr (8, [.ref (qa 62), .ref (qa 63), .ref (qa 64), .ref (qa 65), .ref (qa 66), .ref (qa 67), .ref (qa 68), .int 0, .int (-1), .int 0, .int 0])), ((qa 62), .inl (k 1, 6, .inl (gs 6))), ((qa 63), .inl (k 1, 6, .inl (fun _ => 0))), ((qa 64), .inl (k 1, 6, .inl (fun _ => 0))), ((qa 65), .inl (k 1, 6, .inl (fun _ => 0))), ((qa 66), .inl (k 1, 10, .inl (fun _ => 0))), ((qa 67), .inl (k 1, 10, .inl (fun _ => 0))), ((qa 68), .inl (k 1, 10, .inl (fun _ => 0))), ((ma 0), .inr (10, [.int 0, .ref (ma 1), .int 0, .int 0, .ref (ma 4), .ref (ma 5), .ref (ma 6), .int 0, .int 0, .ref (ma 9), .ref (ma 10), .ref (ma 11), .ref (ma 12), .int 0, .ref (ma 14), .ref (ma 15), .int 0, .int 0, .ref (ma 18), .ref (ma 19), .ref (ma 20), .ref (ma 21), .ref (ma 22), .int 0, .ref (ma 24), .int 0, .ref (ma 26), .int 0, .int 0, .int 0, .int 0, .ref (ma 31), .ref (ma 32), .ref (ma 33), .ref (ma 34), .ref (ma 35), .int 0, .int 0, .ref (ma 38), .ref (ma 39), .ref (ma 40), .long 0])), ((ma 22), .inl (k 1, 1320, .inl (mg 22))), ((ma 24), .inl (k 3, 4, .inl (mg 24)))]) (va_runV (As := [.int (xs 1), .int 1]) (rest := []) ⟨hx, hb, hml, hown, hts⟩ (c_mark_hi l D k _ qa (xs 1) 1 cB) (cwV 2 hts lg_98 rfl rfl rfl (by decide +kernel) ⟨Nat.le_of_ble_eq_true rfl, Nat.le_of_ble_eq_true rfl⟩) (pV hK hN hP hD [0, 9] rfl (by decide) rfl 0 rfl rfl) rfl rfl hl.1 rfl (lv_room (Nat.le_of_ble_eq_true rfl)) dL_law_1430 ⟨by decide, by decide⟩) hP hD hS hA [0, 9] [1, 2, 3, 4, 5, 6, 7, 8, 10, 11, 12, 13, 14, 15, 16, 17, 18, 19, 20, 21, 22, 23, 24, 25, 26, 27, 28, 29, 30, 31, 32, 33, 34, 35, 36, 37, 38, 39, 40, 41, 42, 43, 44] rfl rfl (by decide) (by decide) (fun rx38 ux36 H locs wx37 hP hD hS => ?_)
      have hx39 : rx38 = 0 := wx37
      subst hx39
      have hP : va_P D vwCl [((qa 9), .inr (8, [.ref (qa 10), .ref (qa 11), .ref (qa 12), .ref (qa 13), .ref (qa 14), .ref (qa 15), .ref (qa 16), .int 0, .int (-1), .int 0, .int 0])), ((qa 10), .inl (k 1, 6, .inl (gs 0))), ((qa 11), .inl (k 1, 6, .inl (fun _ => 0))), ((qa 12), .inl (k 1, 6, .inl (fun _ => 0))), ((qa 13), .inl (k 1, 6, .inl (fun _ => 0))), ((qa 14), .inl (k 1, 10, .inl (fun _ => 0))), ((qa 15), .inl (k 1, 10, .inl (fun _ => 0))), ((qa 16), .inl (k 1, 10, .inl (fun _ => 0))), ((qa 37), .inr (8, [.ref (qa 38), .ref (qa 39), .ref (qa 40), .ref (qa 41), .ref (qa 42), .ref (qa 43), .ref (qa 44), .int 0, .int (-1), .int 0, .int 0])), ((qa 38), .inl (k 1, 6, .inl (gs 3))), ((qa 39), .inl (k 1, 6, .inl (fun _ => 0))), ((qa 40), .inl (k 1, 6, .inl (fun _ => 0))), ((qa 41), .inl (k 1, 6, .inl (fun _ => 0))), ((qa 42), .inl (k 1, 10, .inl (fun _ => 0))), ((qa 43), .inl (k 1, 10, .inl (fun _ => 0))), ((qa 44), .inl (k 1, 10, .inl (fun _ => 0))), ((qa 45), .inr (8, [.ref (qa 46), .ref (qa 47), .ref (qa 48), .ref (qa 49), .ref (qa 50), .ref (qa 51), .ref (qa 52), .int 0, .int (-1), .int 0, .int 0])), ((qa 46), .inl (k 1, 6, .inl (gs 4))), ((qa 47), .inl (k 1, 6, .inl (fun _ => 0))), ((qa 48), .inl (k 1, 6, .inl (fun _ => 0))), ((qa 49), .inl (k 1, 6, .inl (fun _ => 0))), ((qa 50), .inl (k 1, 10, .inl (fun _ => 0))), ((qa 51), .inl (k 1, 10, .inl (fun _ => 0))), ((qa 52), .inl (k 1, 10, .inl (fun _ => 0))), ((qa 53), .inr (8, [.ref (qa 54), .ref (qa 55), .ref (qa 56), .ref (qa 57), .ref (qa 58), .ref (qa 59), .ref (qa 60), .int 0, .int (-1), .int 0, .int 0])), ((qa 54), .inl (k 1, 6, .inl (gs 5))), ((qa 55), .inl (k 1, 6, .inl (fun _ => 0))), ((qa 56), .inl (k 1, 6, .inl (fun _ => 0))), ((qa 57), .inl (k 1, 6, .inl (fun _ => 0))), ((qa 58), .inl (k 1, 10, .inl (fun _ => 0))), ((qa 59), .inl (k 1, 10, .inl (fun _ => 0))), ((qa 60), .inl (k 1, 10, .inl (fun _ => 0))), ((qa 61), .inr (8, [.ref (qa 62), .ref (qa 63), .ref (qa 64), .ref (qa 65), .ref (qa 66), .ref (qa 67), .ref (qa 68), .int 0, .int (-1), .int 0, .int 0])), ((qa 62), .inl (k 1, 6, .inl (gs 6))), ((qa 63), .inl (k 1, 6, .inl (fun _ => 0))), ((qa 64), .inl (k 1, 6, .inl (fun _ => 0))), ((qa 65), .inl (k 1, 6, .inl (fun _ => 0))), ((qa 66), .inl (k 1, 10, .inl (fun _ => 0))), ((qa 67), .inl (k 1, 10, .inl (fun _ => 0))), ((qa 68), .inl (k 1, 10, .inl (fun _ => 0))), ((ma 0), .inr (10, [.int 0, .ref (ma 1), .int 0, .int 0, .ref (ma 4), .ref (ma 5), .ref (ma 6), .int 0, .int 0, .ref (ma 9), .ref (ma 10), .ref (ma 11), .ref (ma 12), .int 0, .ref (ma 14), .ref (ma 15), .int 0, .int 0, .ref (ma 18), .ref (ma 19), .ref (ma 20), .ref (ma 21), .ref (ma 22), .int 0, .ref (ma 24), .int 0, .ref (ma 26), .int 0, .int 0, .int 0, .int 0, .ref (ma 31), .ref (ma 32), .ref (ma 33), .ref (ma 34), .ref (ma 35), .int 0, .int 0, .ref (ma 38), .ref (ma 39), .ref (ma 40), .long 0])), ((ma 22), .inl (k 1, 1320, .inl (mg 22))), ((ma 24), .inl (k 3, 4, .inl (mg 24)))] H := hP
      have hD : va_D A [((qa 9), .inr (8, [.ref (qa 10), .ref (qa 11), .ref (qa 12), .ref (qa 13), .ref (qa 14), .ref (qa 15), .ref (qa 16), .int 0, .int (-1), .int 0, .int 0])), ((qa 10), .inl (k 1, 6, .inl (gs 0))), ((qa 11), .inl (k 1, 6, .inl (fun _ => 0))), ((qa 12), .inl (k 1, 6, .inl (fun _ => 0))), ((qa 13), .inl (k 1, 6, .inl (fun _ => 0))), ((qa 14), .inl (k 1, 10, .inl (fun _ => 0))), ((qa 15), .inl (k 1, 10, .inl (fun _ => 0))), ((qa 16), .inl (k 1, 10, .inl (fun _ => 0))), ((qa 37), .inr (8, [.ref (qa 38), .ref (qa 39), .ref (qa 40), .ref (qa 41), .ref (qa 42), .ref (qa 43), .ref (qa 44), .int 0, .int (-1), .int 0, .int 0])), ((qa 38), .inl (k 1, 6, .inl (gs 3))), ((qa 39), .inl (k 1, 6, .inl (fun _ => 0))), ((qa 40), .inl (k 1, 6, .inl (fun _ => 0))), ((qa 41), .inl (k 1, 6, .inl (fun _ => 0))), ((qa 42), .inl (k 1, 10, .inl (fun _ => 0))), ((qa 43), .inl (k 1, 10, .inl (fun _ => 0))), ((qa 44), .inl (k 1, 10, .inl (fun _ => 0))), ((qa 45), .inr (8, [.ref (qa 46), .ref (qa 47), .ref (qa 48), .ref (qa 49), .ref (qa 50), .ref (qa 51), .ref (qa 52), .int 0, .int (-1), .int 0, .int 0])), ((qa 46), .inl (k 1, 6, .inl (gs 4))), ((qa 47), .inl (k 1, 6, .inl (fun _ => 0))), ((qa 48), .inl (k 1, 6, .inl (fun _ => 0))), ((qa 49), .inl (k 1, 6, .inl (fun _ => 0))), ((qa 50), .inl (k 1, 10, .inl (fun _ => 0))), ((qa 51), .inl (k 1, 10, .inl (fun _ => 0))), ((qa 52), .inl (k 1, 10, .inl (fun _ => 0))), ((qa 53), .inr (8, [.ref (qa 54), .ref (qa 55), .ref (qa 56), .ref (qa 57), .ref (qa 58), .ref (qa 59), .ref (qa 60), .int 0, .int (-1), .int 0, .int 0])), ((qa 54), .inl (k 1, 6, .inl (gs 5))), ((qa 55), .inl (k 1, 6, .inl (fun _ => 0))), ((qa 56), .inl (k 1, 6, .inl (fun _ => 0))), ((qa 57), .inl (k 1, 6, .inl (fun _ => 0))), ((qa 58), .inl (k 1, 10, .inl (fun _ => 0))), ((qa 59), .inl (k 1, 10, .inl (fun _ => 0))), ((qa 60), .inl (k 1, 10, .inl (fun _ => 0))), ((qa 61), .inr (8, [.ref (qa 62), .ref (qa 63), .ref (qa 64), .ref (qa 65), .ref (qa 66), .ref (qa 67), .ref (qa 68), .int 0, .int (-1), .int 0, .int 0])), ((qa 62), .inl (k 1, 6, .inl (gs 6))), ((qa 63), .inl (k 1, 6, .inl (fun _ => 0))), ((qa 64), .inl (k 1, 6, .inl (fun _ => 0))), ((qa 65), .inl (k 1, 6, .inl (fun _ => 0))), ((qa 66), .inl (k 1, 10, .inl (fun _ => 0))), ((qa 67), .inl (k 1, 10, .inl (fun _ => 0))), ((qa 68), .inl (k 1, 10, .inl (fun _ => 0))), ((ma 0), .inr (10, [.int 0, .ref (ma 1), .int 0, .int 0, .ref (ma 4), .ref (ma 5), .ref (ma 6), .int 0, .int 0, .ref (ma 9), .ref (ma 10), .ref (ma 11), .ref (ma 12), .int 0, .ref (ma 14), .ref (ma 15), .int 0, .int 0, .ref (ma 18), .ref (ma 19), .ref (ma 20), .ref (ma 21), .ref (ma 22), .int 0, .ref (ma 24), .int 0, .ref (ma 26), .int 0, .int 0, .int 0, .int 0, .ref (ma 31), .ref (ma 32), .ref (ma 33), .ref (ma 34), .ref (ma 35), .int 0, .int 0, .ref (ma 38), .ref (ma 39), .ref (ma 40), .long 0])), ((ma 22), .inl (k 1, 1320, .inl (mg 22))), ((ma 24), .inl (k 3, 4, .inl (mg 24)))] := hD
      refine lv_aload_n hx hb dL_law_1433 rfl (lv_at hl 2 rfl) ?_
      refine lv_aload_n hx hb dL_law_1434 rfl (lv_at hl 4 rfl) ?_
      refine lv_iload hx hb dL_law_1435 (lv_at hl 0 rfl) ?_
      refine lv_iconst (v := 1) hx hb dL_law_1437 (by decide) ?_
      refine lv_iadd hx hb dL_law_1438 ?_
      refine p_topI (v := 1) (by decide) ?_
      refine va_sld hx hb hX hbl hbA hS (show ¬ (_ ∨ _) by decide) dL_law_1439 ?_
      refine p_topI (v := (xs 1)) rfl ?_
      refine lv_aload_n hx hb dL_law_1440 rfl (lv_at hl 4 rfl) ?_
      refine lv_iload hx hb dL_law_1441 (lv_at hl 0 rfl) ?_
      refine lv_iconst (v := 2) hx hb dL_law_1443 (by decide) ?_
      refine lv_iadd hx hb dL_law_1444 ?_
      refine p_topI (v := 2) (by decide) ?_
      refine va_sld hx hb hX hbl hbA hS (show ¬ (_ ∨ _) by decide) dL_law_1445 ?_
      refine p_topI (v := (xs 2)) rfl ?_
      refine lv_if_eq (tgt := 1453) hx hb dL_law_1446 (by decide) (fun h9 => absurd h9 cx24) (fun cx40 => ?_)
      refine lv_iconst (v := 1) hx hb dL_law_1449 (by decide) ?_
      refine lv_goto (tgt := 1454) hx hb dL_law_1450 (by decide) ?_
      refine p_ji (wr := [((qa 9), .inr (8, [.ref (qa 10), .ref (qa 11), .ref (qa 12), .ref (qa 13), .ref (qa 14), .ref (qa 15), .ref (qa 16), .int 0, .int (-1), .int 0, .int 0])), ((qa 10), .inl (k 1, 6, .inl (gs 0))), ((qa 11), .inl (k 1, 6, .inl (fun _ => 0))), ((qa 12), .inl (k 1, 6, .inl (fun _ => 0))), ((qa 13), .inl (k 1, 6, .inl (fun _ => 0))), ((qa 14), .inl (k 1, 10, .inl (fun _ => 0))), ((qa 15), .inl (k 1, 10, .inl (fun _ => 0))), ((qa 16), .inl (k 1, 10, .inl (fun _ => 0))), ((qa 37), .inr (8, [.ref (qa 38), .ref (qa 39), .ref (qa 40), .ref (qa 41), .ref (qa 42), .ref (qa 43), .ref (qa 44), .int 0, .int (-1), .int 0, .int 0])), ((qa 38), .inl (k 1, 6, .inl (gs 3))), ((qa 39), .inl (k 1, 6, .inl (fun _ => 0))), ((qa 40), .inl (k 1, 6, .inl (fun _ => 0))), ((qa 41), .inl (k 1, 6, .inl (fun _ => 0))), ((qa 42), .inl (k 1, 10, .inl (fun _ => 0))), ((qa 43), .inl (k 1, 10, .inl (fun _ => 0))), ((qa 44), .inl (k 1, 10, .inl (fun _ => 0))), ((qa 45), .inr (8, [.ref (qa 46), .ref (qa 47), .ref (qa 48), .ref (qa 49), .ref (qa 50), .ref (qa 51), .ref (qa 52), .int 0, .int (-1), .int 0, .int 0])), ((qa 46), .inl (k 1, 6, .inl (gs 4))), ((qa 47), .inl (k 1, 6, .inl (fun _ => 0))), ((qa 48), .inl (k 1, 6, .inl (fun _ => 0))), ((qa 49), .inl (k 1, 6, .inl (fun _ => 0))), ((qa 50), .inl (k 1, 10, .inl (fun _ => 0))), ((qa 51), .inl (k 1, 10, .inl (fun _ => 0))), ((qa 52), .inl (k 1, 10, .inl (fun _ => 0))), ((qa 53), .inr (8, [.ref (qa 54), .ref (qa 55), .ref (qa 56), .ref (qa 57), .ref (qa 58), .ref (qa 59), .ref (qa 60), .int 0, .int (-1), .int 0, .int 0])), ((qa 54), .inl (k 1, 6, .inl (gs 5))), ((qa 55), .inl (k 1, 6, .inl (fun _ => 0))), ((qa 56), .inl (k 1, 6, .inl (fun _ => 0))), ((qa 57), .inl (k 1, 6, .inl (fun _ => 0))), ((qa 58), .inl (k 1, 10, .inl (fun _ => 0))), ((qa 59), .inl (k 1, 10, .inl (fun _ => 0))), ((qa 60), .inl (k 1, 10, .inl (fun _ => 0))), ((qa 61), .inr (8, [.ref (qa 62), .ref (qa 63), .ref (qa 64), .ref (qa 65), .ref (qa 66), .ref (qa 67), .ref (qa 68), .int 0, .int (-1), .int 0, .int 0])), ((qa 62), .inl (k 1, 6, .inl (gs 6))), ((qa 63), .inl (k 1, 6, .inl (fun _ => 0))), ((qa 64), .inl (k 1, 6, .inl (fun _ => 0))), ((qa 65), .inl (k 1, 6, .inl (fun _ => 0))), ((qa 66), .inl (k 1, 10, .inl (fun _ => 0))), ((qa 67), .inl (k 1, 10, .inl (fun _ => 0))), ((qa 68), .inl (k 1, 10, .inl (fun _ => 0))), ((ma 22), .inl (k 1, 1320, .inl (mg 22))), ((ma 24), .inl (k 3, 4, .inl (mg 24)))]) (va_runV (As := [.int (xs 1), .int 1]) (rest := [.int 0]) ⟨hx, hb, hml, hown, hts⟩ (c_m_mark_hi l D k _ ma (xs 1) 1 cB) (cwV 2 hts lg_99 rfl rfl rfl (by decide +kernel) ⟨Nat.le_of_ble_eq_true rfl, Nat.le_of_ble_eq_true rfl⟩) (pV hK hN hP hD [40] rfl (by decide) rfl 40 rfl rfl) rfl rfl hl.1 rfl (lv_room (Nat.le_of_ble_eq_true rfl)) dL_law_1454 ⟨by decide, by decide⟩) hP hD hS hA [40] [0, 1, 2, 3, 4, 5, 6, 7, 8, 9, 10, 11, 12, 13, 14, 15, 16, 17, 18, 19, 20, 21, 22, 23, 24, 25, 26, 27, 28, 29, 30, 31, 32, 33, 34, 35, 36, 37, 38, 39, 41, 42] rfl rfl (by decide) (by decide) (fun rx43 ux41 H locs wx42 hP hD hS => ?_)
      have hx44 : rx43 = 0 := wx42
      subst hx44
      have hP : va_P D vwCl [((qa 9), .inr (8, [.ref (qa 10), .ref (qa 11), .ref (qa 12), .ref (qa 13), .ref (qa 14), .ref (qa 15), .ref (qa 16), .int 0, .int (-1), .int 0, .int 0])), ((qa 10), .inl (k 1, 6, .inl (gs 0))), ((qa 11), .inl (k 1, 6, .inl (fun _ => 0))), ((qa 12), .inl (k 1, 6, .inl (fun _ => 0))), ((qa 13), .inl (k 1, 6, .inl (fun _ => 0))), ((qa 14), .inl (k 1, 10, .inl (fun _ => 0))), ((qa 15), .inl (k 1, 10, .inl (fun _ => 0))), ((qa 16), .inl (k 1, 10, .inl (fun _ => 0))), ((qa 37), .inr (8, [.ref (qa 38), .ref (qa 39), .ref (qa 40), .ref (qa 41), .ref (qa 42), .ref (qa 43), .ref (qa 44), .int 0, .int (-1), .int 0, .int 0])), ((qa 38), .inl (k 1, 6, .inl (gs 3))), ((qa 39), .inl (k 1, 6, .inl (fun _ => 0))), ((qa 40), .inl (k 1, 6, .inl (fun _ => 0))), ((qa 41), .inl (k 1, 6, .inl (fun _ => 0))), ((qa 42), .inl (k 1, 10, .inl (fun _ => 0))), ((qa 43), .inl (k 1, 10, .inl (fun _ => 0))), ((qa 44), .inl (k 1, 10, .inl (fun _ => 0))), ((qa 45), .inr (8, [.ref (qa 46), .ref (qa 47), .ref (qa 48), .ref (qa 49), .ref (qa 50), .ref (qa 51), .ref (qa 52), .int 0, .int (-1), .int 0, .int 0])), ((qa 46), .inl (k 1, 6, .inl (gs 4))), ((qa 47), .inl (k 1, 6, .inl (fun _ => 0))), ((qa 48), .inl (k 1, 6, .inl (fun _ => 0))), ((qa 49), .inl (k 1, 6, .inl (fun _ => 0))), ((qa 50), .inl (k 1, 10, .inl (fun _ => 0))), ((qa 51), .inl (k 1, 10, .inl (fun _ => 0))), ((qa 52), .inl (k 1, 10, .inl (fun _ => 0))), ((qa 53), .inr (8, [.ref (qa 54), .ref (qa 55), .ref (qa 56), .ref (qa 57), .ref (qa 58), .ref (qa 59), .ref (qa 60), .int 0, .int (-1), .int 0, .int 0])), ((qa 54), .inl (k 1, 6, .inl (gs 5))), ((qa 55), .inl (k 1, 6, .inl (fun _ => 0))), ((qa 56), .inl (k 1, 6, .inl (fun _ => 0))), ((qa 57), .inl (k 1, 6, .inl (fun _ => 0))), ((qa 58), .inl (k 1, 10, .inl (fun _ => 0))), ((qa 59), .inl (k 1, 10, .inl (fun _ => 0))), ((qa 60), .inl (k 1, 10, .inl (fun _ => 0))), ((qa 61), .inr (8, [.ref (qa 62), .ref (qa 63), .ref (qa 64), .ref (qa 65), .ref (qa 66), .ref (qa 67), .ref (qa 68), .int 0, .int (-1), .int 0, .int 0])), ((qa 62), .inl (k 1, 6, .inl (gs 6))), ((qa 63), .inl (k 1, 6, .inl (fun _ => 0))), ((qa 64), .inl (k 1, 6, .inl (fun _ => 0))), ((qa 65), .inl (k 1, 6, .inl (fun _ => 0))), ((qa 66), .inl (k 1, 10, .inl (fun _ => 0))), ((qa 67), .inl (k 1, 10, .inl (fun _ => 0))), ((qa 68), .inl (k 1, 10, .inl (fun _ => 0))), ((ma 22), .inl (k 1, 1320, .inl (mg 22))), ((ma 24), .inl (k 3, 4, .inl (mg 24)))] H := hP
      have hD : va_D A [((qa 9), .inr (8, [.ref (qa 10), .ref (qa 11), .ref (qa 12), .ref (qa 13), .ref (qa 14), .ref (qa 15), .ref (qa 16), .int 0, .int (-1), .int 0, .int 0])), ((qa 10), .inl (k 1, 6, .inl (gs 0))), ((qa 11), .inl (k 1, 6, .inl (fun _ => 0))), ((qa 12), .inl (k 1, 6, .inl (fun _ => 0))), ((qa 13), .inl (k 1, 6, .inl (fun _ => 0))), ((qa 14), .inl (k 1, 10, .inl (fun _ => 0))), ((qa 15), .inl (k 1, 10, .inl (fun _ => 0))), ((qa 16), .inl (k 1, 10, .inl (fun _ => 0))), ((qa 37), .inr (8, [.ref (qa 38), .ref (qa 39), .ref (qa 40), .ref (qa 41), .ref (qa 42), .ref (qa 43), .ref (qa 44), .int 0, .int (-1), .int 0, .int 0])), ((qa 38), .inl (k 1, 6, .inl (gs 3))), ((qa 39), .inl (k 1, 6, .inl (fun _ => 0))), ((qa 40), .inl (k 1, 6, .inl (fun _ => 0))), ((qa 41), .inl (k 1, 6, .inl (fun _ => 0))), ((qa 42), .inl (k 1, 10, .inl (fun _ => 0))), ((qa 43), .inl (k 1, 10, .inl (fun _ => 0))), ((qa 44), .inl (k 1, 10, .inl (fun _ => 0))), ((qa 45), .inr (8, [.ref (qa 46), .ref (qa 47), .ref (qa 48), .ref (qa 49), .ref (qa 50), .ref (qa 51), .ref (qa 52), .int 0, .int (-1), .int 0, .int 0])), ((qa 46), .inl (k 1, 6, .inl (gs 4))), ((qa 47), .inl (k 1, 6, .inl (fun _ => 0))), ((qa 48), .inl (k 1, 6, .inl (fun _ => 0))), ((qa 49), .inl (k 1, 6, .inl (fun _ => 0))), ((qa 50), .inl (k 1, 10, .inl (fun _ => 0))), ((qa 51), .inl (k 1, 10, .inl (fun _ => 0))), ((qa 52), .inl (k 1, 10, .inl (fun _ => 0))), ((qa 53), .inr (8, [.ref (qa 54), .ref (qa 55), .ref (qa 56), .ref (qa 57), .ref (qa 58), .ref (qa 59), .ref (qa 60), .int 0, .int (-1), .int 0, .int 0])), ((qa 54), .inl (k 1, 6, .inl (gs 5))), ((qa 55), .inl (k 1, 6, .inl (fun _ => 0))), ((qa 56), .inl (k 1, 6, .inl (fun _ => 0))), ((qa 57), .inl (k 1, 6, .inl (fun _ => 0))), ((qa 58), .inl (k 1, 10, .inl (fun _ => 0))), ((qa 59), .inl (k 1, 10, .inl (fun _ => 0))), ((qa 60), .inl (k 1, 10, .inl (fun _ => 0))), ((qa 61), .inr (8, [.ref (qa 62), .ref (qa 63), .ref (qa 64), .ref (qa 65), .ref (qa 66), .ref (qa 67), .ref (qa 68), .int 0, .int (-1), .int 0, .int 0])), ((qa 62), .inl (k 1, 6, .inl (gs 6))), ((qa 63), .inl (k 1, 6, .inl (fun _ => 0))), ((qa 64), .inl (k 1, 6, .inl (fun _ => 0))), ((qa 65), .inl (k 1, 6, .inl (fun _ => 0))), ((qa 66), .inl (k 1, 10, .inl (fun _ => 0))), ((qa 67), .inl (k 1, 10, .inl (fun _ => 0))), ((qa 68), .inl (k 1, 10, .inl (fun _ => 0))), ((ma 22), .inl (k 1, 1320, .inl (mg 22))), ((ma 24), .inl (k 3, 4, .inl (mg 24)))] := hD
      refine lv_icmp_eq (tgt := 1487) hx hb dL_law_1457 (by decide) (fun cx45 => ?_) (fun h9 => absurd (by decide) h9)
      refine lv_iinc (v := 7) (lv' := [(4, .int 7), (3, .ref out), (2, .ref (ma 0)), (1, .ref (qa 0)), (0, .ref b)]) hx hb dL_law_1487 hl (k := 0) rfl (by decide) (by decide) rfl (fun ls hl => ?_)
      refine lv_goto (tgt := 23) hx hb dL_law_1490 (by decide) ?_
      refine lv_iload hx hb dL_law_23 (lv_at hl 0 rfl) ?_
      refine lv_aload_n hx hb dL_law_25 rfl (lv_at hl 4 rfl) ?_
      refine va_slen hx hb hX hbl hbA hS dL_law_26 ?_
      refine p_topI (v := 7) (by decide) ?_
      refine lv_bipush (v := 7) hx hb dL_law_27 (by decide) ?_
      refine lv_isub hx hb dL_law_29 ?_
      refine p_topI (v := 0) (by decide) ?_
      refine lv_icmp_gt (tgt := 1493) hx hb dL_law_30 (by decide) (fun cx46 => ?_) (fun h9 => absurd (by decide) h9)
      refine lv_iconst (v := 1) hx hb dL_law_1493 (by decide) ?_
      refine va_forget (fun q hq => hAf _ (hS.2.2 q hq)) ?_
      refine W.widen (k := 600002) (n := 7302232) (by decide) (by decide) ?_
      exact lw_ret hx hb hr hlocks dL_law_1494
  rcases (show (xs 1) = 0 ∨ (xs 1) = 1 ∨ (xs 1) = 2 ∨ (xs 1) = 3 by revert cA cB; simp only [Int32.lt_iff_toInt_lt, ← Int32.toInt_inj, (by decide : (0 : Int32).toInt = 0), (by decide : (1 : Int32).toInt = 1), (by decide : (2 : Int32).toInt = 2), (by decide : (3 : Int32).toInt = 3)]; omega) with cC | cC | cC | cC
  · skip
    refine lv_aload_n hx hb dL_law_1409 rfl (lv_at hl 3 rfl) ?_
    refine lv_aload_n hx hb dL_law_1410 rfl (lv_at hl 4 rfl) ?_
    refine lv_iload hx hb dL_law_1411 (lv_at hl 0 rfl) ?_
    refine lv_iconst (v := 1) hx hb dL_law_1413 (by decide) ?_
    refine lv_iadd hx hb dL_law_1414 ?_
    refine p_topI (v := 1) (by decide) ?_
    refine va_sld hx hb hX hbl hbA hS (show ¬ (_ ∨ _) by decide) dL_law_1415 ?_
    refine p_topI (v := 0) cC ?_
    refine lv_aload_n hx hb dL_law_1416 rfl (lv_at hl 4 rfl) ?_
    refine lv_iload hx hb dL_law_1417 (lv_at hl 0 rfl) ?_
    refine lv_iconst (v := 2) hx hb dL_law_1419 (by decide) ?_
    refine lv_iadd hx hb dL_law_1420 ?_
    refine p_topI (v := 2) (by decide) ?_
    refine va_sld hx hb hX hbl hbA hS (show ¬ (_ ∨ _) by decide) dL_law_1421 ?_
    refine p_topI (v := (xs 2)) rfl ?_
    refine lv_if_eq (tgt := 1429) hx hb dL_law_1422 (by decide) (fun cx47 => ?_) (fun cx47 => ?_)
    · skip
      refine lv_iconst (v := 0) hx hb dL_law_1429 (by decide) ?_
      refine p_ji (wr := [((qa 45), .inr (8, [.ref (qa 46), .ref (qa 47), .ref (qa 48), .ref (qa 49), .ref (qa 50), .ref (qa 51), .ref (qa 52), .int 0, .int (-1), .int 0, .int 0])), ((qa 46), .inl (k 1, 6, .inl (gs 4))), ((qa 47), .inl (k 1, 6, .inl (fun _ => 0))), ((qa 48), .inl (k 1, 6, .inl (fun _ => 0))), ((qa 49), .inl (k 1, 6, .inl (fun _ => 0))), ((qa 50), .inl (k 1, 10, .inl (fun _ => 0))), ((qa 51), .inl (k 1, 10, .inl (fun _ => 0))), ((qa 52), .inl (k 1, 10, .inl (fun _ => 0))), ((qa 53), .inr (8, [.ref (qa 54), .ref (qa 55), .ref (qa 56), .ref (qa 57), .ref (qa 58), .ref (qa 59), .ref (qa 60), .int 0, .int (-1), .int 0, .int 0])), ((qa 54), .inl (k 1, 6, .inl (gs 5))), ((qa 55), .inl (k 1, 6, .inl (fun _ => 0))), ((qa 56), .inl (k 1, 6, .inl (fun _ => 0))), ((qa 57), .inl (k 1, 6, .inl (fun _ => 0))), ((qa 58), .inl (k 1, 10, .inl (fun _ => 0))), ((qa 59), .inl (k 1, 10, .inl (fun _ => 0))), ((qa 60), .inl (k 1, 10, .inl (fun _ => 0))), ((qa 61), .inr (8, [.ref (qa 62), .ref (qa 63), .ref (qa 64), .ref (qa 65), .ref (qa 66), .ref (qa 67), .ref (qa 68), .int 0, .int (-1), .int 0, .int 0])), ((qa 62), .inl (k 1, 6, .inl (gs 6))), ((qa 63), .inl (k 1, 6, .inl (fun _ => 0))), ((qa 64), .inl (k 1, 6, .inl (fun _ => 0))), ((qa 65), .inl (k 1, 6, .inl (fun _ => 0))), ((qa 66), .inl (k 1, 10, .inl (fun _ => 0))), ((qa 67), .inl (k 1, 10, .inl (fun _ => 0))), ((qa 68), .inl (k 1, 10, .inl (fun _ => 0))), ((ma 0), .inr (10, [.int 0, .ref (ma 1), .int 0, .int 0, .ref (ma 4), .ref (ma 5), .ref (ma 6), .int 0, .int 0, .ref (ma 9), .ref (ma 10), .ref (ma 11), .ref (ma 12), .int 0, .ref (ma 14), .ref (ma 15), .int 0, .int 0, .ref (ma 18), .ref (ma 19), .ref (ma 20), .ref (ma 21), .ref (ma 22), .int 0, .ref (ma 24), .int 0, .ref (ma 26), .int 0, .int 0, .int 0, .int 0, .ref (ma 31), .ref (ma 32), .ref (ma 33), .ref (ma 34), .ref (ma 35), .int 0, .int 0, .ref (ma 38), .ref (ma 39), .ref (ma 40), .long 0])), ((ma 22), .inl (k 1, 1320, .inl (mg 22))), ((ma 24), .inl (k 3, 4, .inl (mg 24)))]) (va_runV (As := [.int 0, .int 0]) (rest := []) ⟨hx, hb, hml, hown, hts⟩ (c_mark_0_0 l D k _ qa (gs 3) (gs 0)) (cwV 2 hts lg_100 rfl rfl rfl (by decide +kernel) ⟨Nat.le_of_ble_eq_true rfl, Nat.le_of_ble_eq_true rfl⟩) (pV hK hN hP hD [0, 9, 10, 11, 12, 13, 14, 15, 16, 17, 1, 2, 3, 4, 5, 6, 7, 8] rfl (by decide) rfl 0 rfl rfl) rfl rfl hl.1 rfl (lv_room (Nat.le_of_ble_eq_true rfl)) dL_law_1430 ⟨by decide, by decide⟩) hP hD hS hA [0, 9, 10, 11, 12, 13, 14, 15, 16, 17, 1, 2, 3, 4, 5, 6, 7, 8] [18, 19, 20, 21, 22, 23, 24, 25, 26, 27, 28, 29, 30, 31, 32, 33, 34, 35, 36, 37, 38, 39, 40, 41, 42, 43, 44] rfl rfl (by decide) (by decide) (fun rx50 ux48 H locs wx49 hP hD hS => ?_)
      have hx51 : rx50 = 1 := wx49
      subst hx51
      have hP : va_P D vwCl [((qa 45), .inr (8, [.ref (qa 46), .ref (qa 47), .ref (qa 48), .ref (qa 49), .ref (qa 50), .ref (qa 51), .ref (qa 52), .int 0, .int (-1), .int 0, .int 0])), ((qa 46), .inl (k 1, 6, .inl (gs 4))), ((qa 47), .inl (k 1, 6, .inl (fun _ => 0))), ((qa 48), .inl (k 1, 6, .inl (fun _ => 0))), ((qa 49), .inl (k 1, 6, .inl (fun _ => 0))), ((qa 50), .inl (k 1, 10, .inl (fun _ => 0))), ((qa 51), .inl (k 1, 10, .inl (fun _ => 0))), ((qa 52), .inl (k 1, 10, .inl (fun _ => 0))), ((qa 53), .inr (8, [.ref (qa 54), .ref (qa 55), .ref (qa 56), .ref (qa 57), .ref (qa 58), .ref (qa 59), .ref (qa 60), .int 0, .int (-1), .int 0, .int 0])), ((qa 54), .inl (k 1, 6, .inl (gs 5))), ((qa 55), .inl (k 1, 6, .inl (fun _ => 0))), ((qa 56), .inl (k 1, 6, .inl (fun _ => 0))), ((qa 57), .inl (k 1, 6, .inl (fun _ => 0))), ((qa 58), .inl (k 1, 10, .inl (fun _ => 0))), ((qa 59), .inl (k 1, 10, .inl (fun _ => 0))), ((qa 60), .inl (k 1, 10, .inl (fun _ => 0))), ((qa 61), .inr (8, [.ref (qa 62), .ref (qa 63), .ref (qa 64), .ref (qa 65), .ref (qa 66), .ref (qa 67), .ref (qa 68), .int 0, .int (-1), .int 0, .int 0])), ((qa 62), .inl (k 1, 6, .inl (gs 6))), ((qa 63), .inl (k 1, 6, .inl (fun _ => 0))), ((qa 64), .inl (k 1, 6, .inl (fun _ => 0))), ((qa 65), .inl (k 1, 6, .inl (fun _ => 0))), ((qa 66), .inl (k 1, 10, .inl (fun _ => 0))), ((qa 67), .inl (k 1, 10, .inl (fun _ => 0))), ((qa 68), .inl (k 1, 10, .inl (fun _ => 0))), ((ma 0), .inr (10, [.int 0, .ref (ma 1), .int 0, .int 0, .ref (ma 4), .ref (ma 5), .ref (ma 6), .int 0, .int 0, .ref (ma 9), .ref (ma 10), .ref (ma 11), .ref (ma 12), .int 0, .ref (ma 14), .ref (ma 15), .int 0, .int 0, .ref (ma 18), .ref (ma 19), .ref (ma 20), .ref (ma 21), .ref (ma 22), .int 0, .ref (ma 24), .int 0, .ref (ma 26), .int 0, .int 0, .int 0, .int 0, .ref (ma 31), .ref (ma 32), .ref (ma 33), .ref (ma 34), .ref (ma 35), .int 0, .int 0, .ref (ma 38), .ref (ma 39), .ref (ma 40), .long 0])), ((ma 22), .inl (k 1, 1320, .inl (mg 22))), ((ma 24), .inl (k 3, 4, .inl (mg 24)))] H := hP
      have hD : va_D A [((qa 45), .inr (8, [.ref (qa 46), .ref (qa 47), .ref (qa 48), .ref (qa 49), .ref (qa 50), .ref (qa 51), .ref (qa 52), .int 0, .int (-1), .int 0, .int 0])), ((qa 46), .inl (k 1, 6, .inl (gs 4))), ((qa 47), .inl (k 1, 6, .inl (fun _ => 0))), ((qa 48), .inl (k 1, 6, .inl (fun _ => 0))), ((qa 49), .inl (k 1, 6, .inl (fun _ => 0))), ((qa 50), .inl (k 1, 10, .inl (fun _ => 0))), ((qa 51), .inl (k 1, 10, .inl (fun _ => 0))), ((qa 52), .inl (k 1, 10, .inl (fun _ => 0))), ((qa 53), .inr (8, [.ref (qa 54), .ref (qa 55), .ref (qa 56), .ref (qa 57), .ref (qa 58), .ref (qa 59), .ref (qa 60), .int 0, .int (-1), .int 0, .int 0])), ((qa 54), .inl (k 1, 6, .inl (gs 5))), ((qa 55), .inl (k 1, 6, .inl (fun _ => 0))), ((qa 56), .inl (k 1, 6, .inl (fun _ => 0))), ((qa 57), .inl (k 1, 6, .inl (fun _ => 0))), ((qa 58), .inl (k 1, 10, .inl (fun _ => 0))), ((qa 59), .inl (k 1, 10, .inl (fun _ => 0))), ((qa 60), .inl (k 1, 10, .inl (fun _ => 0))), ((qa 61), .inr (8, [.ref (qa 62), .ref (qa 63), .ref (qa 64), .ref (qa 65), .ref (qa 66), .ref (qa 67), .ref (qa 68), .int 0, .int (-1), .int 0, .int 0])), ((qa 62), .inl (k 1, 6, .inl (gs 6))), ((qa 63), .inl (k 1, 6, .inl (fun _ => 0))), ((qa 64), .inl (k 1, 6, .inl (fun _ => 0))), ((qa 65), .inl (k 1, 6, .inl (fun _ => 0))), ((qa 66), .inl (k 1, 10, .inl (fun _ => 0))), ((qa 67), .inl (k 1, 10, .inl (fun _ => 0))), ((qa 68), .inl (k 1, 10, .inl (fun _ => 0))), ((ma 0), .inr (10, [.int 0, .ref (ma 1), .int 0, .int 0, .ref (ma 4), .ref (ma 5), .ref (ma 6), .int 0, .int 0, .ref (ma 9), .ref (ma 10), .ref (ma 11), .ref (ma 12), .int 0, .ref (ma 14), .ref (ma 15), .int 0, .int 0, .ref (ma 18), .ref (ma 19), .ref (ma 20), .ref (ma 21), .ref (ma 22), .int 0, .ref (ma 24), .int 0, .ref (ma 26), .int 0, .int 0, .int 0, .int 0, .ref (ma 31), .ref (ma 32), .ref (ma 33), .ref (ma 34), .ref (ma 35), .int 0, .int 0, .ref (ma 38), .ref (ma 39), .ref (ma 40), .long 0])), ((ma 22), .inl (k 1, 1320, .inl (mg 22))), ((ma 24), .inl (k 3, 4, .inl (mg 24)))] := hD
      refine lv_aload_n hx hb dL_law_1433 rfl (lv_at hl 2 rfl) ?_
      refine lv_aload_n hx hb dL_law_1434 rfl (lv_at hl 4 rfl) ?_
      refine lv_iload hx hb dL_law_1435 (lv_at hl 0 rfl) ?_
      refine lv_iconst (v := 1) hx hb dL_law_1437 (by decide) ?_
      refine lv_iadd hx hb dL_law_1438 ?_
      refine p_topI (v := 1) (by decide) ?_
      refine va_sld hx hb hX hbl hbA hS (show ¬ (_ ∨ _) by decide) dL_law_1439 ?_
      refine p_topI (v := 0) cC ?_
      refine lv_aload_n hx hb dL_law_1440 rfl (lv_at hl 4 rfl) ?_
      refine lv_iload hx hb dL_law_1441 (lv_at hl 0 rfl) ?_
      refine lv_iconst (v := 2) hx hb dL_law_1443 (by decide) ?_
      refine lv_iadd hx hb dL_law_1444 ?_
      refine p_topI (v := 2) (by decide) ?_
      refine va_sld hx hb hX hbl hbA hS (show ¬ (_ ∨ _) by decide) dL_law_1445 ?_
      refine p_topI (v := 0) cx47 ?_
      refine lv_if_eq (tgt := 1453) hx hb dL_law_1446 (by decide) (fun cx52 => ?_) (fun h9 => absurd (by decide) h9)
      refine lv_iconst (v := 0) hx hb dL_law_1453 (by decide) ?_
      refine p_ji (wr := [((qa 45), .inr (8, [.ref (qa 46), .ref (qa 47), .ref (qa 48), .ref (qa 49), .ref (qa 50), .ref (qa 51), .ref (qa 52), .int 0, .int (-1), .int 0, .int 0])), ((qa 46), .inl (k 1, 6, .inl (gs 4))), ((qa 47), .inl (k 1, 6, .inl (fun _ => 0))), ((qa 48), .inl (k 1, 6, .inl (fun _ => 0))), ((qa 49), .inl (k 1, 6, .inl (fun _ => 0))), ((qa 50), .inl (k 1, 10, .inl (fun _ => 0))), ((qa 51), .inl (k 1, 10, .inl (fun _ => 0))), ((qa 52), .inl (k 1, 10, .inl (fun _ => 0))), ((qa 53), .inr (8, [.ref (qa 54), .ref (qa 55), .ref (qa 56), .ref (qa 57), .ref (qa 58), .ref (qa 59), .ref (qa 60), .int 0, .int (-1), .int 0, .int 0])), ((qa 54), .inl (k 1, 6, .inl (gs 5))), ((qa 55), .inl (k 1, 6, .inl (fun _ => 0))), ((qa 56), .inl (k 1, 6, .inl (fun _ => 0))), ((qa 57), .inl (k 1, 6, .inl (fun _ => 0))), ((qa 58), .inl (k 1, 10, .inl (fun _ => 0))), ((qa 59), .inl (k 1, 10, .inl (fun _ => 0))), ((qa 60), .inl (k 1, 10, .inl (fun _ => 0))), ((qa 61), .inr (8, [.ref (qa 62), .ref (qa 63), .ref (qa 64), .ref (qa 65), .ref (qa 66), .ref (qa 67), .ref (qa 68), .int 0, .int (-1), .int 0, .int 0])), ((qa 62), .inl (k 1, 6, .inl (gs 6))), ((qa 63), .inl (k 1, 6, .inl (fun _ => 0))), ((qa 64), .inl (k 1, 6, .inl (fun _ => 0))), ((qa 65), .inl (k 1, 6, .inl (fun _ => 0))), ((qa 66), .inl (k 1, 10, .inl (fun _ => 0))), ((qa 67), .inl (k 1, 10, .inl (fun _ => 0))), ((qa 68), .inl (k 1, 10, .inl (fun _ => 0)))]) (va_runV (As := [.int 0, .int 0]) (rest := [.int 1]) ⟨hx, hb, hml, hown, hts⟩ (c_m_mark_0_0 l D k _ ma mg) (cwV 2 hts lg_101 rfl rfl rfl (by decide +kernel) ⟨Nat.le_of_ble_eq_true rfl, Nat.le_of_ble_eq_true rfl⟩) (pV hK hN hP hD [24, 26, 25] rfl (by decide) rfl 24 rfl rfl) rfl rfl hl.1 rfl (lv_room (Nat.le_of_ble_eq_true rfl)) dL_law_1454 ⟨by decide, by decide⟩) hP hD hS hA [24, 26, 25] [0, 1, 2, 3, 4, 5, 6, 7, 8, 9, 10, 11, 12, 13, 14, 15, 16, 17, 18, 19, 20, 21, 22, 23] rfl rfl (by decide) (by decide) (fun rx55 ux53 H locs wx54 hP hD hS => ?_)
      have hx56 : rx55 = 1 := wx54
      subst hx56
      have hP : va_P D vwCl [((qa 45), .inr (8, [.ref (qa 46), .ref (qa 47), .ref (qa 48), .ref (qa 49), .ref (qa 50), .ref (qa 51), .ref (qa 52), .int 0, .int (-1), .int 0, .int 0])), ((qa 46), .inl (k 1, 6, .inl (gs 4))), ((qa 47), .inl (k 1, 6, .inl (fun _ => 0))), ((qa 48), .inl (k 1, 6, .inl (fun _ => 0))), ((qa 49), .inl (k 1, 6, .inl (fun _ => 0))), ((qa 50), .inl (k 1, 10, .inl (fun _ => 0))), ((qa 51), .inl (k 1, 10, .inl (fun _ => 0))), ((qa 52), .inl (k 1, 10, .inl (fun _ => 0))), ((qa 53), .inr (8, [.ref (qa 54), .ref (qa 55), .ref (qa 56), .ref (qa 57), .ref (qa 58), .ref (qa 59), .ref (qa 60), .int 0, .int (-1), .int 0, .int 0])), ((qa 54), .inl (k 1, 6, .inl (gs 5))), ((qa 55), .inl (k 1, 6, .inl (fun _ => 0))), ((qa 56), .inl (k 1, 6, .inl (fun _ => 0))), ((qa 57), .inl (k 1, 6, .inl (fun _ => 0))), ((qa 58), .inl (k 1, 10, .inl (fun _ => 0))), ((qa 59), .inl (k 1, 10, .inl (fun _ => 0))), ((qa 60), .inl (k 1, 10, .inl (fun _ => 0))), ((qa 61), .inr (8, [.ref (qa 62), .ref (qa 63), .ref (qa 64), .ref (qa 65), .ref (qa 66), .ref (qa 67), .ref (qa 68), .int 0, .int (-1), .int 0, .int 0])), ((qa 62), .inl (k 1, 6, .inl (gs 6))), ((qa 63), .inl (k 1, 6, .inl (fun _ => 0))), ((qa 64), .inl (k 1, 6, .inl (fun _ => 0))), ((qa 65), .inl (k 1, 6, .inl (fun _ => 0))), ((qa 66), .inl (k 1, 10, .inl (fun _ => 0))), ((qa 67), .inl (k 1, 10, .inl (fun _ => 0))), ((qa 68), .inl (k 1, 10, .inl (fun _ => 0)))] H := hP
      have hD : va_D A [((qa 45), .inr (8, [.ref (qa 46), .ref (qa 47), .ref (qa 48), .ref (qa 49), .ref (qa 50), .ref (qa 51), .ref (qa 52), .int 0, .int (-1), .int 0, .int 0])), ((qa 46), .inl (k 1, 6, .inl (gs 4))), ((qa 47), .inl (k 1, 6, .inl (fun _ => 0))), ((qa 48), .inl (k 1, 6, .inl (fun _ => 0))), ((qa 49), .inl (k 1, 6, .inl (fun _ => 0))), ((qa 50), .inl (k 1, 10, .inl (fun _ => 0))), ((qa 51), .inl (k 1, 10, .inl (fun _ => 0))), ((qa 52), .inl (k 1, 10, .inl (fun _ => 0))), ((qa 53), .inr (8, [.ref (qa 54), .ref (qa 55), .ref (qa 56), .ref (qa 57), .ref (qa 58), .ref (qa 59), .ref (qa 60), .int 0, .int (-1), .int 0, .int 0])), ((qa 54), .inl (k 1, 6, .inl (gs 5))), ((qa 55), .inl (k 1, 6, .inl (fun _ => 0))), ((qa 56), .inl (k 1, 6, .inl (fun _ => 0))), ((qa 57), .inl (k 1, 6, .inl (fun _ => 0))), ((qa 58), .inl (k 1, 10, .inl (fun _ => 0))), ((qa 59), .inl (k 1, 10, .inl (fun _ => 0))), ((qa 60), .inl (k 1, 10, .inl (fun _ => 0))), ((qa 61), .inr (8, [.ref (qa 62), .ref (qa 63), .ref (qa 64), .ref (qa 65), .ref (qa 66), .ref (qa 67), .ref (qa 68), .int 0, .int (-1), .int 0, .int 0])), ((qa 62), .inl (k 1, 6, .inl (gs 6))), ((qa 63), .inl (k 1, 6, .inl (fun _ => 0))), ((qa 64), .inl (k 1, 6, .inl (fun _ => 0))), ((qa 65), .inl (k 1, 6, .inl (fun _ => 0))), ((qa 66), .inl (k 1, 10, .inl (fun _ => 0))), ((qa 67), .inl (k 1, 10, .inl (fun _ => 0))), ((qa 68), .inl (k 1, 10, .inl (fun _ => 0)))] := hD
      refine lv_icmp_eq (tgt := 1487) hx hb dL_law_1457 (by decide) (fun cx57 => ?_) (fun h9 => absurd (by decide) h9)
      refine lv_iinc (v := 7) (lv' := [(4, .int 7), (3, .ref out), (2, .ref (ma 0)), (1, .ref (qa 0)), (0, .ref b)]) hx hb dL_law_1487 hl (k := 0) rfl (by decide) (by decide) rfl (fun ls hl => ?_)
      refine lv_goto (tgt := 23) hx hb dL_law_1490 (by decide) ?_
      refine lv_iload hx hb dL_law_23 (lv_at hl 0 rfl) ?_
      refine lv_aload_n hx hb dL_law_25 rfl (lv_at hl 4 rfl) ?_
      refine va_slen hx hb hX hbl hbA hS dL_law_26 ?_
      refine p_topI (v := 7) (by decide) ?_
      refine lv_bipush (v := 7) hx hb dL_law_27 (by decide) ?_
      refine lv_isub hx hb dL_law_29 ?_
      refine p_topI (v := 0) (by decide) ?_
      refine lv_icmp_gt (tgt := 1493) hx hb dL_law_30 (by decide) (fun cx58 => ?_) (fun h9 => absurd (by decide) h9)
      refine lv_iconst (v := 1) hx hb dL_law_1493 (by decide) ?_
      refine va_forget (fun q hq => hAf _ (hS.2.2 q hq)) ?_
      refine W.widen (k := 600002) (n := 7302232) (by decide) (by decide) ?_
      exact lw_ret hx hb hr hlocks dL_law_1494
    · skip
      refine lv_iconst (v := 1) hx hb dL_law_1425 (by decide) ?_
      refine lv_goto (tgt := 1430) hx hb dL_law_1426 (by decide) ?_
      refine p_ji (wr := [((qa 9), .inr (8, [.ref (qa 10), .ref (qa 11), .ref (qa 12), .ref (qa 13), .ref (qa 14), .ref (qa 15), .ref (qa 16), .int 0, .int (-1), .int 0, .int 0])), ((qa 10), .inl (k 1, 6, .inl (gs 0))), ((qa 11), .inl (k 1, 6, .inl (fun _ => 0))), ((qa 12), .inl (k 1, 6, .inl (fun _ => 0))), ((qa 13), .inl (k 1, 6, .inl (fun _ => 0))), ((qa 14), .inl (k 1, 10, .inl (fun _ => 0))), ((qa 15), .inl (k 1, 10, .inl (fun _ => 0))), ((qa 16), .inl (k 1, 10, .inl (fun _ => 0))), ((qa 38), .inl (k 1, 6, .inl (gs 3))), ((qa 39), .inl (k 1, 6, .inl (fun _ => 0))), ((qa 40), .inl (k 1, 6, .inl (fun _ => 0))), ((qa 41), .inl (k 1, 6, .inl (fun _ => 0))), ((qa 42), .inl (k 1, 10, .inl (fun _ => 0))), ((qa 43), .inl (k 1, 10, .inl (fun _ => 0))), ((qa 44), .inl (k 1, 10, .inl (fun _ => 0))), ((qa 45), .inr (8, [.ref (qa 46), .ref (qa 47), .ref (qa 48), .ref (qa 49), .ref (qa 50), .ref (qa 51), .ref (qa 52), .int 0, .int (-1), .int 0, .int 0])), ((qa 46), .inl (k 1, 6, .inl (gs 4))), ((qa 47), .inl (k 1, 6, .inl (fun _ => 0))), ((qa 48), .inl (k 1, 6, .inl (fun _ => 0))), ((qa 49), .inl (k 1, 6, .inl (fun _ => 0))), ((qa 50), .inl (k 1, 10, .inl (fun _ => 0))), ((qa 51), .inl (k 1, 10, .inl (fun _ => 0))), ((qa 52), .inl (k 1, 10, .inl (fun _ => 0))), ((qa 53), .inr (8, [.ref (qa 54), .ref (qa 55), .ref (qa 56), .ref (qa 57), .ref (qa 58), .ref (qa 59), .ref (qa 60), .int 0, .int (-1), .int 0, .int 0])), ((qa 54), .inl (k 1, 6, .inl (gs 5))), ((qa 55), .inl (k 1, 6, .inl (fun _ => 0))), ((qa 56), .inl (k 1, 6, .inl (fun _ => 0))), ((qa 57), .inl (k 1, 6, .inl (fun _ => 0))), ((qa 58), .inl (k 1, 10, .inl (fun _ => 0))), ((qa 59), .inl (k 1, 10, .inl (fun _ => 0))), ((qa 60), .inl (k 1, 10, .inl (fun _ => 0))), ((qa 61), .inr (8, [.ref (qa 62), .ref (qa 63), .ref (qa 64), .ref (qa 65), .ref (qa 66), .ref (qa 67), .ref (qa 68), .int 0, .int (-1), .int 0, .int 0])), ((qa 62), .inl (k 1, 6, .inl (gs 6))), ((qa 63), .inl (k 1, 6, .inl (fun _ => 0))), ((qa 64), .inl (k 1, 6, .inl (fun _ => 0))), ((qa 65), .inl (k 1, 6, .inl (fun _ => 0))), ((qa 66), .inl (k 1, 10, .inl (fun _ => 0))), ((qa 67), .inl (k 1, 10, .inl (fun _ => 0))), ((qa 68), .inl (k 1, 10, .inl (fun _ => 0))), ((ma 0), .inr (10, [.int 0, .ref (ma 1), .int 0, .int 0, .ref (ma 4), .ref (ma 5), .ref (ma 6), .int 0, .int 0, .ref (ma 9), .ref (ma 10), .ref (ma 11), .ref (ma 12), .int 0, .ref (ma 14), .ref (ma 15), .int 0, .int 0, .ref (ma 18), .ref (ma 19), .ref (ma 20), .ref (ma 21), .ref (ma 22), .int 0, .ref (ma 24), .int 0, .ref (ma 26), .int 0, .int 0, .int 0, .int 0, .ref (ma 31), .ref (ma 32), .ref (ma 33), .ref (ma 34), .ref (ma 35), .int 0, .int 0, .ref (ma 38), .ref (ma 39), .ref (ma 40), .long 0])), ((ma 22), .inl (k 1, 1320, .inl (mg 22))), ((ma 24), .inl (k 3, 4, .inl (mg 24)))]) (va_runV (As := [.int 0, .int 1]) (rest := []) ⟨hx, hb, hml, hown, hts⟩ (c_mark_0_1 l D k _ qa) (cwV 2 hts lg_102 rfl rfl rfl (by decide +kernel) ⟨Nat.le_of_ble_eq_true rfl, Nat.le_of_ble_eq_true rfl⟩) (pV hK hN hP hD [0, 9, 10] rfl (by decide) rfl 0 rfl rfl) rfl rfl hl.1 rfl (lv_room (Nat.le_of_ble_eq_true rfl)) dL_law_1430 ⟨by decide, by decide⟩) hP hD hS hA [0, 9, 10] [1, 2, 3, 4, 5, 6, 7, 8, 11, 12, 13, 14, 15, 16, 17, 18, 19, 20, 21, 22, 23, 24, 25, 26, 27, 28, 29, 30, 31, 32, 33, 34, 35, 36, 37, 38, 39, 40, 41, 42, 43, 44] rfl rfl (by decide) (by decide) (fun rx61 ux59 H locs wx60 hP hD hS => ?_)
      have hx62 : rx61 = 0 := wx60
      subst hx62
      have hP : va_P D vwCl [((qa 9), .inr (8, [.ref (qa 10), .ref (qa 11), .ref (qa 12), .ref (qa 13), .ref (qa 14), .ref (qa 15), .ref (qa 16), .int 0, .int (-1), .int 0, .int 0])), ((qa 10), .inl (k 1, 6, .inl (gs 0))), ((qa 11), .inl (k 1, 6, .inl (fun _ => 0))), ((qa 12), .inl (k 1, 6, .inl (fun _ => 0))), ((qa 13), .inl (k 1, 6, .inl (fun _ => 0))), ((qa 14), .inl (k 1, 10, .inl (fun _ => 0))), ((qa 15), .inl (k 1, 10, .inl (fun _ => 0))), ((qa 16), .inl (k 1, 10, .inl (fun _ => 0))), ((qa 38), .inl (k 1, 6, .inl (gs 3))), ((qa 39), .inl (k 1, 6, .inl (fun _ => 0))), ((qa 40), .inl (k 1, 6, .inl (fun _ => 0))), ((qa 41), .inl (k 1, 6, .inl (fun _ => 0))), ((qa 42), .inl (k 1, 10, .inl (fun _ => 0))), ((qa 43), .inl (k 1, 10, .inl (fun _ => 0))), ((qa 44), .inl (k 1, 10, .inl (fun _ => 0))), ((qa 45), .inr (8, [.ref (qa 46), .ref (qa 47), .ref (qa 48), .ref (qa 49), .ref (qa 50), .ref (qa 51), .ref (qa 52), .int 0, .int (-1), .int 0, .int 0])), ((qa 46), .inl (k 1, 6, .inl (gs 4))), ((qa 47), .inl (k 1, 6, .inl (fun _ => 0))), ((qa 48), .inl (k 1, 6, .inl (fun _ => 0))), ((qa 49), .inl (k 1, 6, .inl (fun _ => 0))), ((qa 50), .inl (k 1, 10, .inl (fun _ => 0))), ((qa 51), .inl (k 1, 10, .inl (fun _ => 0))), ((qa 52), .inl (k 1, 10, .inl (fun _ => 0))), ((qa 53), .inr (8, [.ref (qa 54), .ref (qa 55), .ref (qa 56), .ref (qa 57), .ref (qa 58), .ref (qa 59), .ref (qa 60), .int 0, .int (-1), .int 0, .int 0])), ((qa 54), .inl (k 1, 6, .inl (gs 5))), ((qa 55), .inl (k 1, 6, .inl (fun _ => 0))), ((qa 56), .inl (k 1, 6, .inl (fun _ => 0))), ((qa 57), .inl (k 1, 6, .inl (fun _ => 0))), ((qa 58), .inl (k 1, 10, .inl (fun _ => 0))), ((qa 59), .inl (k 1, 10, .inl (fun _ => 0))), ((qa 60), .inl (k 1, 10, .inl (fun _ => 0))), ((qa 61), .inr (8, [.ref (qa 62), .ref (qa 63), .ref (qa 64), .ref (qa 65), .ref (qa 66), .ref (qa 67), .ref (qa 68), .int 0, .int (-1), .int 0, .int 0])), ((qa 62), .inl (k 1, 6, .inl (gs 6))), ((qa 63), .inl (k 1, 6, .inl (fun _ => 0))), ((qa 64), .inl (k 1, 6, .inl (fun _ => 0))), ((qa 65), .inl (k 1, 6, .inl (fun _ => 0))), ((qa 66), .inl (k 1, 10, .inl (fun _ => 0))), ((qa 67), .inl (k 1, 10, .inl (fun _ => 0))), ((qa 68), .inl (k 1, 10, .inl (fun _ => 0))), ((ma 0), .inr (10, [.int 0, .ref (ma 1), .int 0, .int 0, .ref (ma 4), .ref (ma 5), .ref (ma 6), .int 0, .int 0, .ref (ma 9), .ref (ma 10), .ref (ma 11), .ref (ma 12), .int 0, .ref (ma 14), .ref (ma 15), .int 0, .int 0, .ref (ma 18), .ref (ma 19), .ref (ma 20), .ref (ma 21), .ref (ma 22), .int 0, .ref (ma 24), .int 0, .ref (ma 26), .int 0, .int 0, .int 0, .int 0, .ref (ma 31), .ref (ma 32), .ref (ma 33), .ref (ma 34), .ref (ma 35), .int 0, .int 0, .ref (ma 38), .ref (ma 39), .ref (ma 40), .long 0])), ((ma 22), .inl (k 1, 1320, .inl (mg 22))), ((ma 24), .inl (k 3, 4, .inl (mg 24)))] H := hP
      have hD : va_D A [((qa 9), .inr (8, [.ref (qa 10), .ref (qa 11), .ref (qa 12), .ref (qa 13), .ref (qa 14), .ref (qa 15), .ref (qa 16), .int 0, .int (-1), .int 0, .int 0])), ((qa 10), .inl (k 1, 6, .inl (gs 0))), ((qa 11), .inl (k 1, 6, .inl (fun _ => 0))), ((qa 12), .inl (k 1, 6, .inl (fun _ => 0))), ((qa 13), .inl (k 1, 6, .inl (fun _ => 0))), ((qa 14), .inl (k 1, 10, .inl (fun _ => 0))), ((qa 15), .inl (k 1, 10, .inl (fun _ => 0))), ((qa 16), .inl (k 1, 10, .inl (fun _ => 0))), ((qa 38), .inl (k 1, 6, .inl (gs 3))), ((qa 39), .inl (k 1, 6, .inl (fun _ => 0))), ((qa 40), .inl (k 1, 6, .inl (fun _ => 0))), ((qa 41), .inl (k 1, 6, .inl (fun _ => 0))), ((qa 42), .inl (k 1, 10, .inl (fun _ => 0))), ((qa 43), .inl (k 1, 10, .inl (fun _ => 0))), ((qa 44), .inl (k 1, 10, .inl (fun _ => 0))), ((qa 45), .inr (8, [.ref (qa 46), .ref (qa 47), .ref (qa 48), .ref (qa 49), .ref (qa 50), .ref (qa 51), .ref (qa 52), .int 0, .int (-1), .int 0, .int 0])), ((qa 46), .inl (k 1, 6, .inl (gs 4))), ((qa 47), .inl (k 1, 6, .inl (fun _ => 0))), ((qa 48), .inl (k 1, 6, .inl (fun _ => 0))), ((qa 49), .inl (k 1, 6, .inl (fun _ => 0))), ((qa 50), .inl (k 1, 10, .inl (fun _ => 0))), ((qa 51), .inl (k 1, 10, .inl (fun _ => 0))), ((qa 52), .inl (k 1, 10, .inl (fun _ => 0))), ((qa 53), .inr (8, [.ref (qa 54), .ref (qa 55), .ref (qa 56), .ref (qa 57), .ref (qa 58), .ref (qa 59), .ref (qa 60), .int 0, .int (-1), .int 0, .int 0])), ((qa 54), .inl (k 1, 6, .inl (gs 5))), ((qa 55), .inl (k 1, 6, .inl (fun _ => 0))), ((qa 56), .inl (k 1, 6, .inl (fun _ => 0))), ((qa 57), .inl (k 1, 6, .inl (fun _ => 0))), ((qa 58), .inl (k 1, 10, .inl (fun _ => 0))), ((qa 59), .inl (k 1, 10, .inl (fun _ => 0))), ((qa 60), .inl (k 1, 10, .inl (fun _ => 0))), ((qa 61), .inr (8, [.ref (qa 62), .ref (qa 63), .ref (qa 64), .ref (qa 65), .ref (qa 66), .ref (qa 67), .ref (qa 68), .int 0, .int (-1), .int 0, .int 0])), ((qa 62), .inl (k 1, 6, .inl (gs 6))), ((qa 63), .inl (k 1, 6, .inl (fun _ => 0))), ((qa 64), .inl (k 1, 6, .inl (fun _ => 0))), ((qa 65), .inl (k 1, 6, .inl (fun _ => 0))), ((qa 66), .inl (k 1, 10, .inl (fun _ => 0))), ((qa 67), .inl (k 1, 10, .inl (fun _ => 0))), ((qa 68), .inl (k 1, 10, .inl (fun _ => 0))), ((ma 0), .inr (10, [.int 0, .ref (ma 1), .int 0, .int 0, .ref (ma 4), .ref (ma 5), .ref (ma 6), .int 0, .int 0, .ref (ma 9), .ref (ma 10), .ref (ma 11), .ref (ma 12), .int 0, .ref (ma 14), .ref (ma 15), .int 0, .int 0, .ref (ma 18), .ref (ma 19), .ref (ma 20), .ref (ma 21), .ref (ma 22), .int 0, .ref (ma 24), .int 0, .ref (ma 26), .int 0, .int 0, .int 0, .int 0, .ref (ma 31), .ref (ma 32), .ref (ma 33), .ref (ma 34), .ref (ma 35), .int 0, .int 0, .ref (ma 38), .ref (ma 39), .ref (ma 40), .long 0])), ((ma 22), .inl (k 1, 1320, .inl (mg 22))), ((ma 24), .inl (k 3, 4, .inl (mg 24)))] := hD
      refine lv_aload_n hx hb dL_law_1433 rfl (lv_at hl 2 rfl) ?_
      refine lv_aload_n hx hb dL_law_1434 rfl (lv_at hl 4 rfl) ?_
      refine lv_iload hx hb dL_law_1435 (lv_at hl 0 rfl) ?_
      refine lv_iconst (v := 1) hx hb dL_law_1437 (by decide) ?_
      refine lv_iadd hx hb dL_law_1438 ?_
      refine p_topI (v := 1) (by decide) ?_
      refine va_sld hx hb hX hbl hbA hS (show ¬ (_ ∨ _) by decide) dL_law_1439 ?_
      refine p_topI (v := 0) cC ?_
      refine lv_aload_n hx hb dL_law_1440 rfl (lv_at hl 4 rfl) ?_
      refine lv_iload hx hb dL_law_1441 (lv_at hl 0 rfl) ?_
      refine lv_iconst (v := 2) hx hb dL_law_1443 (by decide) ?_
      refine lv_iadd hx hb dL_law_1444 ?_
      refine p_topI (v := 2) (by decide) ?_
      refine va_sld hx hb hX hbl hbA hS (show ¬ (_ ∨ _) by decide) dL_law_1445 ?_
      refine p_topI (v := (xs 2)) rfl ?_
      refine lv_if_eq (tgt := 1453) hx hb dL_law_1446 (by decide) (fun h9 => absurd h9 cx47) (fun cx63 => ?_)
      refine lv_iconst (v := 1) hx hb dL_law_1449 (by decide) ?_
      refine lv_goto (tgt := 1454) hx hb dL_law_1450 (by decide) ?_
      refine p_ji (wr := [((qa 9), .inr (8, [.ref (qa 10), .ref (qa 11), .ref (qa 12), .ref (qa 13), .ref (qa 14), .ref (qa 15), .ref (qa 16), .int 0, .int (-1), .int 0, .int 0])), ((qa 10), .inl (k 1, 6, .inl (gs 0))), ((qa 11), .inl (k 1, 6, .inl (fun _ => 0))), ((qa 12), .inl (k 1, 6, .inl (fun _ => 0))), ((qa 13), .inl (k 1, 6, .inl (fun _ => 0))), ((qa 14), .inl (k 1, 10, .inl (fun _ => 0))), ((qa 15), .inl (k 1, 10, .inl (fun _ => 0))), ((qa 16), .inl (k 1, 10, .inl (fun _ => 0))), ((qa 38), .inl (k 1, 6, .inl (gs 3))), ((qa 39), .inl (k 1, 6, .inl (fun _ => 0))), ((qa 40), .inl (k 1, 6, .inl (fun _ => 0))), ((qa 41), .inl (k 1, 6, .inl (fun _ => 0))), ((qa 42), .inl (k 1, 10, .inl (fun _ => 0))), ((qa 43), .inl (k 1, 10, .inl (fun _ => 0))), ((qa 44), .inl (k 1, 10, .inl (fun _ => 0))), ((qa 45), .inr (8, [.ref (qa 46), .ref (qa 47), .ref (qa 48), .ref (qa 49), .ref (qa 50), .ref (qa 51), .ref (qa 52), .int 0, .int (-1), .int 0, .int 0])), ((qa 46), .inl (k 1, 6, .inl (gs 4))), ((qa 47), .inl (k 1, 6, .inl (fun _ => 0))), ((qa 48), .inl (k 1, 6, .inl (fun _ => 0))), ((qa 49), .inl (k 1, 6, .inl (fun _ => 0))), ((qa 50), .inl (k 1, 10, .inl (fun _ => 0))), ((qa 51), .inl (k 1, 10, .inl (fun _ => 0))), ((qa 52), .inl (k 1, 10, .inl (fun _ => 0))), ((qa 53), .inr (8, [.ref (qa 54), .ref (qa 55), .ref (qa 56), .ref (qa 57), .ref (qa 58), .ref (qa 59), .ref (qa 60), .int 0, .int (-1), .int 0, .int 0])), ((qa 54), .inl (k 1, 6, .inl (gs 5))), ((qa 55), .inl (k 1, 6, .inl (fun _ => 0))), ((qa 56), .inl (k 1, 6, .inl (fun _ => 0))), ((qa 57), .inl (k 1, 6, .inl (fun _ => 0))), ((qa 58), .inl (k 1, 10, .inl (fun _ => 0))), ((qa 59), .inl (k 1, 10, .inl (fun _ => 0))), ((qa 60), .inl (k 1, 10, .inl (fun _ => 0))), ((qa 61), .inr (8, [.ref (qa 62), .ref (qa 63), .ref (qa 64), .ref (qa 65), .ref (qa 66), .ref (qa 67), .ref (qa 68), .int 0, .int (-1), .int 0, .int 0])), ((qa 62), .inl (k 1, 6, .inl (gs 6))), ((qa 63), .inl (k 1, 6, .inl (fun _ => 0))), ((qa 64), .inl (k 1, 6, .inl (fun _ => 0))), ((qa 65), .inl (k 1, 6, .inl (fun _ => 0))), ((qa 66), .inl (k 1, 10, .inl (fun _ => 0))), ((qa 67), .inl (k 1, 10, .inl (fun _ => 0))), ((qa 68), .inl (k 1, 10, .inl (fun _ => 0))), ((ma 22), .inl (k 1, 1320, .inl (mg 22)))]) (va_runV (As := [.int 0, .int 1]) (rest := [.int 0]) ⟨hx, hb, hml, hown, hts⟩ (c_m_mark_0_1 l D k _ ma mg hm0) (cwV 2 hts lg_103 rfl rfl rfl (by decide +kernel) ⟨Nat.le_of_ble_eq_true rfl, Nat.le_of_ble_eq_true rfl⟩) (pV hK hN hP hD [39, 41] rfl (by decide) rfl 39 rfl rfl) rfl rfl hl.1 rfl (lv_room (Nat.le_of_ble_eq_true rfl)) dL_law_1454 ⟨by decide, by decide⟩) hP hD hS hA [39, 41] [0, 1, 2, 3, 4, 5, 6, 7, 8, 9, 10, 11, 12, 13, 14, 15, 16, 17, 18, 19, 20, 21, 22, 23, 24, 25, 26, 27, 28, 29, 30, 31, 32, 33, 34, 35, 36, 37, 38, 40] rfl rfl (by decide) (by decide) (fun rx66 ux64 H locs wx65 hP hD hS => ?_)
      have hx67 : rx66 = 0 := wx65
      subst hx67
      have hP : va_P D vwCl [((qa 9), .inr (8, [.ref (qa 10), .ref (qa 11), .ref (qa 12), .ref (qa 13), .ref (qa 14), .ref (qa 15), .ref (qa 16), .int 0, .int (-1), .int 0, .int 0])), ((qa 10), .inl (k 1, 6, .inl (gs 0))), ((qa 11), .inl (k 1, 6, .inl (fun _ => 0))), ((qa 12), .inl (k 1, 6, .inl (fun _ => 0))), ((qa 13), .inl (k 1, 6, .inl (fun _ => 0))), ((qa 14), .inl (k 1, 10, .inl (fun _ => 0))), ((qa 15), .inl (k 1, 10, .inl (fun _ => 0))), ((qa 16), .inl (k 1, 10, .inl (fun _ => 0))), ((qa 38), .inl (k 1, 6, .inl (gs 3))), ((qa 39), .inl (k 1, 6, .inl (fun _ => 0))), ((qa 40), .inl (k 1, 6, .inl (fun _ => 0))), ((qa 41), .inl (k 1, 6, .inl (fun _ => 0))), ((qa 42), .inl (k 1, 10, .inl (fun _ => 0))), ((qa 43), .inl (k 1, 10, .inl (fun _ => 0))), ((qa 44), .inl (k 1, 10, .inl (fun _ => 0))), ((qa 45), .inr (8, [.ref (qa 46), .ref (qa 47), .ref (qa 48), .ref (qa 49), .ref (qa 50), .ref (qa 51), .ref (qa 52), .int 0, .int (-1), .int 0, .int 0])), ((qa 46), .inl (k 1, 6, .inl (gs 4))), ((qa 47), .inl (k 1, 6, .inl (fun _ => 0))), ((qa 48), .inl (k 1, 6, .inl (fun _ => 0))), ((qa 49), .inl (k 1, 6, .inl (fun _ => 0))), ((qa 50), .inl (k 1, 10, .inl (fun _ => 0))), ((qa 51), .inl (k 1, 10, .inl (fun _ => 0))), ((qa 52), .inl (k 1, 10, .inl (fun _ => 0))), ((qa 53), .inr (8, [.ref (qa 54), .ref (qa 55), .ref (qa 56), .ref (qa 57), .ref (qa 58), .ref (qa 59), .ref (qa 60), .int 0, .int (-1), .int 0, .int 0])), ((qa 54), .inl (k 1, 6, .inl (gs 5))), ((qa 55), .inl (k 1, 6, .inl (fun _ => 0))), ((qa 56), .inl (k 1, 6, .inl (fun _ => 0))), ((qa 57), .inl (k 1, 6, .inl (fun _ => 0))), ((qa 58), .inl (k 1, 10, .inl (fun _ => 0))), ((qa 59), .inl (k 1, 10, .inl (fun _ => 0))), ((qa 60), .inl (k 1, 10, .inl (fun _ => 0))), ((qa 61), .inr (8, [.ref (qa 62), .ref (qa 63), .ref (qa 64), .ref (qa 65), .ref (qa 66), .ref (qa 67), .ref (qa 68), .int 0, .int (-1), .int 0, .int 0])), ((qa 62), .inl (k 1, 6, .inl (gs 6))), ((qa 63), .inl (k 1, 6, .inl (fun _ => 0))), ((qa 64), .inl (k 1, 6, .inl (fun _ => 0))), ((qa 65), .inl (k 1, 6, .inl (fun _ => 0))), ((qa 66), .inl (k 1, 10, .inl (fun _ => 0))), ((qa 67), .inl (k 1, 10, .inl (fun _ => 0))), ((qa 68), .inl (k 1, 10, .inl (fun _ => 0))), ((ma 22), .inl (k 1, 1320, .inl (mg 22)))] H := hP
      have hD : va_D A [((qa 9), .inr (8, [.ref (qa 10), .ref (qa 11), .ref (qa 12), .ref (qa 13), .ref (qa 14), .ref (qa 15), .ref (qa 16), .int 0, .int (-1), .int 0, .int 0])), ((qa 10), .inl (k 1, 6, .inl (gs 0))), ((qa 11), .inl (k 1, 6, .inl (fun _ => 0))), ((qa 12), .inl (k 1, 6, .inl (fun _ => 0))), ((qa 13), .inl (k 1, 6, .inl (fun _ => 0))), ((qa 14), .inl (k 1, 10, .inl (fun _ => 0))), ((qa 15), .inl (k 1, 10, .inl (fun _ => 0))), ((qa 16), .inl (k 1, 10, .inl (fun _ => 0))), ((qa 38), .inl (k 1, 6, .inl (gs 3))), ((qa 39), .inl (k 1, 6, .inl (fun _ => 0))), ((qa 40), .inl (k 1, 6, .inl (fun _ => 0))), ((qa 41), .inl (k 1, 6, .inl (fun _ => 0))), ((qa 42), .inl (k 1, 10, .inl (fun _ => 0))), ((qa 43), .inl (k 1, 10, .inl (fun _ => 0))), ((qa 44), .inl (k 1, 10, .inl (fun _ => 0))), ((qa 45), .inr (8, [.ref (qa 46), .ref (qa 47), .ref (qa 48), .ref (qa 49), .ref (qa 50), .ref (qa 51), .ref (qa 52), .int 0, .int (-1), .int 0, .int 0])), ((qa 46), .inl (k 1, 6, .inl (gs 4))), ((qa 47), .inl (k 1, 6, .inl (fun _ => 0))), ((qa 48), .inl (k 1, 6, .inl (fun _ => 0))), ((qa 49), .inl (k 1, 6, .inl (fun _ => 0))), ((qa 50), .inl (k 1, 10, .inl (fun _ => 0))), ((qa 51), .inl (k 1, 10, .inl (fun _ => 0))), ((qa 52), .inl (k 1, 10, .inl (fun _ => 0))), ((qa 53), .inr (8, [.ref (qa 54), .ref (qa 55), .ref (qa 56), .ref (qa 57), .ref (qa 58), .ref (qa 59), .ref (qa 60), .int 0, .int (-1), .int 0, .int 0])), ((qa 54), .inl (k 1, 6, .inl (gs 5))), ((qa 55), .inl (k 1, 6, .inl (fun _ => 0))), ((qa 56), .inl (k 1, 6, .inl (fun _ => 0))), ((qa 57), .inl (k 1, 6, .inl (fun _ => 0))), ((qa 58), .inl (k 1, 10, .inl (fun _ => 0))), ((qa 59), .inl (k 1, 10, .inl (fun _ => 0))), ((qa 60), .inl (k 1, 10, .inl (fun _ => 0))), ((qa 61), .inr (8, [.ref (qa 62), .ref (qa 63), .ref (qa 64), .ref (qa 65), .ref (qa 66), .ref (qa 67), .ref (qa 68), .int 0, .int (-1), .int 0, .int 0])), ((qa 62), .inl (k 1, 6, .inl (gs 6))), ((qa 63), .inl (k 1, 6, .inl (fun _ => 0))), ((qa 64), .inl (k 1, 6, .inl (fun _ => 0))), ((qa 65), .inl (k 1, 6, .inl (fun _ => 0))), ((qa 66), .inl (k 1, 10, .inl (fun _ => 0))), ((qa 67), .inl (k 1, 10, .inl (fun _ => 0))), ((qa 68), .inl (k 1, 10, .inl (fun _ => 0))), ((ma 22), .inl (k 1, 1320, .inl (mg 22)))] := hD
      refine lv_icmp_eq (tgt := 1487) hx hb dL_law_1457 (by decide) (fun cx68 => ?_) (fun h9 => absurd (by decide) h9)
      refine lv_iinc (v := 7) (lv' := [(4, .int 7), (3, .ref out), (2, .ref (ma 0)), (1, .ref (qa 0)), (0, .ref b)]) hx hb dL_law_1487 hl (k := 0) rfl (by decide) (by decide) rfl (fun ls hl => ?_)
      refine lv_goto (tgt := 23) hx hb dL_law_1490 (by decide) ?_
      refine lv_iload hx hb dL_law_23 (lv_at hl 0 rfl) ?_
      refine lv_aload_n hx hb dL_law_25 rfl (lv_at hl 4 rfl) ?_
      refine va_slen hx hb hX hbl hbA hS dL_law_26 ?_
      refine p_topI (v := 7) (by decide) ?_
      refine lv_bipush (v := 7) hx hb dL_law_27 (by decide) ?_
      refine lv_isub hx hb dL_law_29 ?_
      refine p_topI (v := 0) (by decide) ?_
      refine lv_icmp_gt (tgt := 1493) hx hb dL_law_30 (by decide) (fun cx69 => ?_) (fun h9 => absurd (by decide) h9)
      refine lv_iconst (v := 1) hx hb dL_law_1493 (by decide) ?_
      refine va_forget (fun q hq => hAf _ (hS.2.2 q hq)) ?_
      refine W.widen (k := 600002) (n := 7302232) (by decide) (by decide) ?_
      exact lw_ret hx hb hr hlocks dL_law_1494
  · skip
    refine lv_aload_n hx hb dL_law_1409 rfl (lv_at hl 3 rfl) ?_
    refine lv_aload_n hx hb dL_law_1410 rfl (lv_at hl 4 rfl) ?_
    refine lv_iload hx hb dL_law_1411 (lv_at hl 0 rfl) ?_
    refine lv_iconst (v := 1) hx hb dL_law_1413 (by decide) ?_
    refine lv_iadd hx hb dL_law_1414 ?_
    refine p_topI (v := 1) (by decide) ?_
    refine va_sld hx hb hX hbl hbA hS (show ¬ (_ ∨ _) by decide) dL_law_1415 ?_
    refine p_topI (v := 1) cC ?_
    refine lv_aload_n hx hb dL_law_1416 rfl (lv_at hl 4 rfl) ?_
    refine lv_iload hx hb dL_law_1417 (lv_at hl 0 rfl) ?_
    refine lv_iconst (v := 2) hx hb dL_law_1419 (by decide) ?_
    refine lv_iadd hx hb dL_law_1420 ?_
    refine p_topI (v := 2) (by decide) ?_
    refine va_sld hx hb hX hbl hbA hS (show ¬ (_ ∨ _) by decide) dL_law_1421 ?_
    refine p_topI (v := (xs 2)) rfl ?_
    refine lv_if_eq (tgt := 1429) hx hb dL_law_1422 (by decide) (fun cx70 => ?_) (fun cx70 => ?_)
    · skip
      refine lv_iconst (v := 0) hx hb dL_law_1429 (by decide) ?_
      refine p_ji (wr := [((qa 37), .inr (8, [.ref (qa 38), .ref (qa 39), .ref (qa 40), .ref (qa 41), .ref (qa 42), .ref (qa 43), .ref (qa 44), .int 0, .int (-1), .int 0, .int 0])), ((qa 38), .inl (k 1, 6, .inl (gs 3))), ((qa 39), .inl (k 1, 6, .inl (fun _ => 0))), ((qa 40), .inl (k 1, 6, .inl (fun _ => 0))), ((qa 41), .inl (k 1, 6, .inl (fun _ => 0))), ((qa 42), .inl (k 1, 10, .inl (fun _ => 0))), ((qa 43), .inl (k 1, 10, .inl (fun _ => 0))), ((qa 44), .inl (k 1, 10, .inl (fun _ => 0))), ((qa 53), .inr (8, [.ref (qa 54), .ref (qa 55), .ref (qa 56), .ref (qa 57), .ref (qa 58), .ref (qa 59), .ref (qa 60), .int 0, .int (-1), .int 0, .int 0])), ((qa 54), .inl (k 1, 6, .inl (gs 5))), ((qa 55), .inl (k 1, 6, .inl (fun _ => 0))), ((qa 56), .inl (k 1, 6, .inl (fun _ => 0))), ((qa 57), .inl (k 1, 6, .inl (fun _ => 0))), ((qa 58), .inl (k 1, 10, .inl (fun _ => 0))), ((qa 59), .inl (k 1, 10, .inl (fun _ => 0))), ((qa 60), .inl (k 1, 10, .inl (fun _ => 0))), ((qa 61), .inr (8, [.ref (qa 62), .ref (qa 63), .ref (qa 64), .ref (qa 65), .ref (qa 66), .ref (qa 67), .ref (qa 68), .int 0, .int (-1), .int 0, .int 0])), ((qa 62), .inl (k 1, 6, .inl (gs 6))), ((qa 63), .inl (k 1, 6, .inl (fun _ => 0))), ((qa 64), .inl (k 1, 6, .inl (fun _ => 0))), ((qa 65), .inl (k 1, 6, .inl (fun _ => 0))), ((qa 66), .inl (k 1, 10, .inl (fun _ => 0))), ((qa 67), .inl (k 1, 10, .inl (fun _ => 0))), ((qa 68), .inl (k 1, 10, .inl (fun _ => 0))), ((ma 0), .inr (10, [.int 0, .ref (ma 1), .int 0, .int 0, .ref (ma 4), .ref (ma 5), .ref (ma 6), .int 0, .int 0, .ref (ma 9), .ref (ma 10), .ref (ma 11), .ref (ma 12), .int 0, .ref (ma 14), .ref (ma 15), .int 0, .int 0, .ref (ma 18), .ref (ma 19), .ref (ma 20), .ref (ma 21), .ref (ma 22), .int 0, .ref (ma 24), .int 0, .ref (ma 26), .int 0, .int 0, .int 0, .int 0, .ref (ma 31), .ref (ma 32), .ref (ma 33), .ref (ma 34), .ref (ma 35), .int 0, .int 0, .ref (ma 38), .ref (ma 39), .ref (ma 40), .long 0])), ((ma 22), .inl (k 1, 1320, .inl (mg 22))), ((ma 24), .inl (k 3, 4, .inl (mg 24)))]) (va_runV (As := [.int 1, .int 0]) (rest := []) ⟨hx, hb, hml, hown, hts⟩ (c_mark_1_0 l D k _ qa (gs 4) (gs 0)) (cwV 2 hts lg_104 rfl rfl rfl (by decide +kernel) ⟨Nat.le_of_ble_eq_true rfl, Nat.le_of_ble_eq_true rfl⟩) (pV hK hN hP hD [0, 9, 18, 19, 20, 21, 22, 23, 24, 25, 1, 2, 3, 4, 5, 6, 7, 8] rfl (by decide) rfl 0 rfl rfl) rfl rfl hl.1 rfl (lv_room (Nat.le_of_ble_eq_true rfl)) dL_law_1430 ⟨by decide, by decide⟩) hP hD hS hA [0, 9, 18, 19, 20, 21, 22, 23, 24, 25, 1, 2, 3, 4, 5, 6, 7, 8] [10, 11, 12, 13, 14, 15, 16, 17, 26, 27, 28, 29, 30, 31, 32, 33, 34, 35, 36, 37, 38, 39, 40, 41, 42, 43, 44] rfl rfl (by decide) (by decide) (fun rx73 ux71 H locs wx72 hP hD hS => ?_)
      have hx74 : rx73 = 1 := wx72
      subst hx74
      have hP : va_P D vwCl [((qa 37), .inr (8, [.ref (qa 38), .ref (qa 39), .ref (qa 40), .ref (qa 41), .ref (qa 42), .ref (qa 43), .ref (qa 44), .int 0, .int (-1), .int 0, .int 0])), ((qa 38), .inl (k 1, 6, .inl (gs 3))), ((qa 39), .inl (k 1, 6, .inl (fun _ => 0))), ((qa 40), .inl (k 1, 6, .inl (fun _ => 0))), ((qa 41), .inl (k 1, 6, .inl (fun _ => 0))), ((qa 42), .inl (k 1, 10, .inl (fun _ => 0))), ((qa 43), .inl (k 1, 10, .inl (fun _ => 0))), ((qa 44), .inl (k 1, 10, .inl (fun _ => 0))), ((qa 53), .inr (8, [.ref (qa 54), .ref (qa 55), .ref (qa 56), .ref (qa 57), .ref (qa 58), .ref (qa 59), .ref (qa 60), .int 0, .int (-1), .int 0, .int 0])), ((qa 54), .inl (k 1, 6, .inl (gs 5))), ((qa 55), .inl (k 1, 6, .inl (fun _ => 0))), ((qa 56), .inl (k 1, 6, .inl (fun _ => 0))), ((qa 57), .inl (k 1, 6, .inl (fun _ => 0))), ((qa 58), .inl (k 1, 10, .inl (fun _ => 0))), ((qa 59), .inl (k 1, 10, .inl (fun _ => 0))), ((qa 60), .inl (k 1, 10, .inl (fun _ => 0))), ((qa 61), .inr (8, [.ref (qa 62), .ref (qa 63), .ref (qa 64), .ref (qa 65), .ref (qa 66), .ref (qa 67), .ref (qa 68), .int 0, .int (-1), .int 0, .int 0])), ((qa 62), .inl (k 1, 6, .inl (gs 6))), ((qa 63), .inl (k 1, 6, .inl (fun _ => 0))), ((qa 64), .inl (k 1, 6, .inl (fun _ => 0))), ((qa 65), .inl (k 1, 6, .inl (fun _ => 0))), ((qa 66), .inl (k 1, 10, .inl (fun _ => 0))), ((qa 67), .inl (k 1, 10, .inl (fun _ => 0))), ((qa 68), .inl (k 1, 10, .inl (fun _ => 0))), ((ma 0), .inr (10, [.int 0, .ref (ma 1), .int 0, .int 0, .ref (ma 4), .ref (ma 5), .ref (ma 6), .int 0, .int 0, .ref (ma 9), .ref (ma 10), .ref (ma 11), .ref (ma 12), .int 0, .ref (ma 14), .ref (ma 15), .int 0, .int 0, .ref (ma 18), .ref (ma 19), .ref (ma 20), .ref (ma 21), .ref (ma 22), .int 0, .ref (ma 24), .int 0, .ref (ma 26), .int 0, .int 0, .int 0, .int 0, .ref (ma 31), .ref (ma 32), .ref (ma 33), .ref (ma 34), .ref (ma 35), .int 0, .int 0, .ref (ma 38), .ref (ma 39), .ref (ma 40), .long 0])), ((ma 22), .inl (k 1, 1320, .inl (mg 22))), ((ma 24), .inl (k 3, 4, .inl (mg 24)))] H := hP
      have hD : va_D A [((qa 37), .inr (8, [.ref (qa 38), .ref (qa 39), .ref (qa 40), .ref (qa 41), .ref (qa 42), .ref (qa 43), .ref (qa 44), .int 0, .int (-1), .int 0, .int 0])), ((qa 38), .inl (k 1, 6, .inl (gs 3))), ((qa 39), .inl (k 1, 6, .inl (fun _ => 0))), ((qa 40), .inl (k 1, 6, .inl (fun _ => 0))), ((qa 41), .inl (k 1, 6, .inl (fun _ => 0))), ((qa 42), .inl (k 1, 10, .inl (fun _ => 0))), ((qa 43), .inl (k 1, 10, .inl (fun _ => 0))), ((qa 44), .inl (k 1, 10, .inl (fun _ => 0))), ((qa 53), .inr (8, [.ref (qa 54), .ref (qa 55), .ref (qa 56), .ref (qa 57), .ref (qa 58), .ref (qa 59), .ref (qa 60), .int 0, .int (-1), .int 0, .int 0])), ((qa 54), .inl (k 1, 6, .inl (gs 5))), ((qa 55), .inl (k 1, 6, .inl (fun _ => 0))), ((qa 56), .inl (k 1, 6, .inl (fun _ => 0))), ((qa 57), .inl (k 1, 6, .inl (fun _ => 0))), ((qa 58), .inl (k 1, 10, .inl (fun _ => 0))), ((qa 59), .inl (k 1, 10, .inl (fun _ => 0))), ((qa 60), .inl (k 1, 10, .inl (fun _ => 0))), ((qa 61), .inr (8, [.ref (qa 62), .ref (qa 63), .ref (qa 64), .ref (qa 65), .ref (qa 66), .ref (qa 67), .ref (qa 68), .int 0, .int (-1), .int 0, .int 0])), ((qa 62), .inl (k 1, 6, .inl (gs 6))), ((qa 63), .inl (k 1, 6, .inl (fun _ => 0))), ((qa 64), .inl (k 1, 6, .inl (fun _ => 0))), ((qa 65), .inl (k 1, 6, .inl (fun _ => 0))), ((qa 66), .inl (k 1, 10, .inl (fun _ => 0))), ((qa 67), .inl (k 1, 10, .inl (fun _ => 0))), ((qa 68), .inl (k 1, 10, .inl (fun _ => 0))), ((ma 0), .inr (10, [.int 0, .ref (ma 1), .int 0, .int 0, .ref (ma 4), .ref (ma 5), .ref (ma 6), .int 0, .int 0, .ref (ma 9), .ref (ma 10), .ref (ma 11), .ref (ma 12), .int 0, .ref (ma 14), .ref (ma 15), .int 0, .int 0, .ref (ma 18), .ref (ma 19), .ref (ma 20), .ref (ma 21), .ref (ma 22), .int 0, .ref (ma 24), .int 0, .ref (ma 26), .int 0, .int 0, .int 0, .int 0, .ref (ma 31), .ref (ma 32), .ref (ma 33), .ref (ma 34), .ref (ma 35), .int 0, .int 0, .ref (ma 38), .ref (ma 39), .ref (ma 40), .long 0])), ((ma 22), .inl (k 1, 1320, .inl (mg 22))), ((ma 24), .inl (k 3, 4, .inl (mg 24)))] := hD
      refine lv_aload_n hx hb dL_law_1433 rfl (lv_at hl 2 rfl) ?_
      refine lv_aload_n hx hb dL_law_1434 rfl (lv_at hl 4 rfl) ?_
      refine lv_iload hx hb dL_law_1435 (lv_at hl 0 rfl) ?_
      refine lv_iconst (v := 1) hx hb dL_law_1437 (by decide) ?_
      refine lv_iadd hx hb dL_law_1438 ?_
      refine p_topI (v := 1) (by decide) ?_
      refine va_sld hx hb hX hbl hbA hS (show ¬ (_ ∨ _) by decide) dL_law_1439 ?_
      refine p_topI (v := 1) cC ?_
      refine lv_aload_n hx hb dL_law_1440 rfl (lv_at hl 4 rfl) ?_
      refine lv_iload hx hb dL_law_1441 (lv_at hl 0 rfl) ?_
      refine lv_iconst (v := 2) hx hb dL_law_1443 (by decide) ?_
      refine lv_iadd hx hb dL_law_1444 ?_
      refine p_topI (v := 2) (by decide) ?_
      refine va_sld hx hb hX hbl hbA hS (show ¬ (_ ∨ _) by decide) dL_law_1445 ?_
      refine p_topI (v := 0) cx70 ?_
      refine lv_if_eq (tgt := 1453) hx hb dL_law_1446 (by decide) (fun cx75 => ?_) (fun h9 => absurd (by decide) h9)
      refine lv_iconst (v := 0) hx hb dL_law_1453 (by decide) ?_
      refine p_ji (wr := [((qa 37), .inr (8, [.ref (qa 38), .ref (qa 39), .ref (qa 40), .ref (qa 41), .ref (qa 42), .ref (qa 43), .ref (qa 44), .int 0, .int (-1), .int 0, .int 0])), ((qa 38), .inl (k 1, 6, .inl (gs 3))), ((qa 39), .inl (k 1, 6, .inl (fun _ => 0))), ((qa 40), .inl (k 1, 6, .inl (fun _ => 0))), ((qa 41), .inl (k 1, 6, .inl (fun _ => 0))), ((qa 42), .inl (k 1, 10, .inl (fun _ => 0))), ((qa 43), .inl (k 1, 10, .inl (fun _ => 0))), ((qa 44), .inl (k 1, 10, .inl (fun _ => 0))), ((qa 53), .inr (8, [.ref (qa 54), .ref (qa 55), .ref (qa 56), .ref (qa 57), .ref (qa 58), .ref (qa 59), .ref (qa 60), .int 0, .int (-1), .int 0, .int 0])), ((qa 54), .inl (k 1, 6, .inl (gs 5))), ((qa 55), .inl (k 1, 6, .inl (fun _ => 0))), ((qa 56), .inl (k 1, 6, .inl (fun _ => 0))), ((qa 57), .inl (k 1, 6, .inl (fun _ => 0))), ((qa 58), .inl (k 1, 10, .inl (fun _ => 0))), ((qa 59), .inl (k 1, 10, .inl (fun _ => 0))), ((qa 60), .inl (k 1, 10, .inl (fun _ => 0))), ((qa 61), .inr (8, [.ref (qa 62), .ref (qa 63), .ref (qa 64), .ref (qa 65), .ref (qa 66), .ref (qa 67), .ref (qa 68), .int 0, .int (-1), .int 0, .int 0])), ((qa 62), .inl (k 1, 6, .inl (gs 6))), ((qa 63), .inl (k 1, 6, .inl (fun _ => 0))), ((qa 64), .inl (k 1, 6, .inl (fun _ => 0))), ((qa 65), .inl (k 1, 6, .inl (fun _ => 0))), ((qa 66), .inl (k 1, 10, .inl (fun _ => 0))), ((qa 67), .inl (k 1, 10, .inl (fun _ => 0))), ((qa 68), .inl (k 1, 10, .inl (fun _ => 0)))]) (va_runV (As := [.int 1, .int 0]) (rest := [.int 1]) ⟨hx, hb, hml, hown, hts⟩ (c_m_mark_1_0 l D k _ ma mg) (cwV 2 hts lg_105 rfl rfl rfl (by decide +kernel) ⟨Nat.le_of_ble_eq_true rfl, Nat.le_of_ble_eq_true rfl⟩) (pV hK hN hP hD [24, 26, 25] rfl (by decide) rfl 24 rfl rfl) rfl rfl hl.1 rfl (lv_room (Nat.le_of_ble_eq_true rfl)) dL_law_1454 ⟨by decide, by decide⟩) hP hD hS hA [24, 26, 25] [0, 1, 2, 3, 4, 5, 6, 7, 8, 9, 10, 11, 12, 13, 14, 15, 16, 17, 18, 19, 20, 21, 22, 23] rfl rfl (by decide) (by decide) (fun rx78 ux76 H locs wx77 hP hD hS => ?_)
      have hx79 : rx78 = 1 := wx77
      subst hx79
      have hP : va_P D vwCl [((qa 37), .inr (8, [.ref (qa 38), .ref (qa 39), .ref (qa 40), .ref (qa 41), .ref (qa 42), .ref (qa 43), .ref (qa 44), .int 0, .int (-1), .int 0, .int 0])), ((qa 38), .inl (k 1, 6, .inl (gs 3))), ((qa 39), .inl (k 1, 6, .inl (fun _ => 0))), ((qa 40), .inl (k 1, 6, .inl (fun _ => 0))), ((qa 41), .inl (k 1, 6, .inl (fun _ => 0))), ((qa 42), .inl (k 1, 10, .inl (fun _ => 0))), ((qa 43), .inl (k 1, 10, .inl (fun _ => 0))), ((qa 44), .inl (k 1, 10, .inl (fun _ => 0))), ((qa 53), .inr (8, [.ref (qa 54), .ref (qa 55), .ref (qa 56), .ref (qa 57), .ref (qa 58), .ref (qa 59), .ref (qa 60), .int 0, .int (-1), .int 0, .int 0])), ((qa 54), .inl (k 1, 6, .inl (gs 5))), ((qa 55), .inl (k 1, 6, .inl (fun _ => 0))), ((qa 56), .inl (k 1, 6, .inl (fun _ => 0))), ((qa 57), .inl (k 1, 6, .inl (fun _ => 0))), ((qa 58), .inl (k 1, 10, .inl (fun _ => 0))), ((qa 59), .inl (k 1, 10, .inl (fun _ => 0))), ((qa 60), .inl (k 1, 10, .inl (fun _ => 0))), ((qa 61), .inr (8, [.ref (qa 62), .ref (qa 63), .ref (qa 64), .ref (qa 65), .ref (qa 66), .ref (qa 67), .ref (qa 68), .int 0, .int (-1), .int 0, .int 0])), ((qa 62), .inl (k 1, 6, .inl (gs 6))), ((qa 63), .inl (k 1, 6, .inl (fun _ => 0))), ((qa 64), .inl (k 1, 6, .inl (fun _ => 0))), ((qa 65), .inl (k 1, 6, .inl (fun _ => 0))), ((qa 66), .inl (k 1, 10, .inl (fun _ => 0))), ((qa 67), .inl (k 1, 10, .inl (fun _ => 0))), ((qa 68), .inl (k 1, 10, .inl (fun _ => 0)))] H := hP
      have hD : va_D A [((qa 37), .inr (8, [.ref (qa 38), .ref (qa 39), .ref (qa 40), .ref (qa 41), .ref (qa 42), .ref (qa 43), .ref (qa 44), .int 0, .int (-1), .int 0, .int 0])), ((qa 38), .inl (k 1, 6, .inl (gs 3))), ((qa 39), .inl (k 1, 6, .inl (fun _ => 0))), ((qa 40), .inl (k 1, 6, .inl (fun _ => 0))), ((qa 41), .inl (k 1, 6, .inl (fun _ => 0))), ((qa 42), .inl (k 1, 10, .inl (fun _ => 0))), ((qa 43), .inl (k 1, 10, .inl (fun _ => 0))), ((qa 44), .inl (k 1, 10, .inl (fun _ => 0))), ((qa 53), .inr (8, [.ref (qa 54), .ref (qa 55), .ref (qa 56), .ref (qa 57), .ref (qa 58), .ref (qa 59), .ref (qa 60), .int 0, .int (-1), .int 0, .int 0])), ((qa 54), .inl (k 1, 6, .inl (gs 5))), ((qa 55), .inl (k 1, 6, .inl (fun _ => 0))), ((qa 56), .inl (k 1, 6, .inl (fun _ => 0))), ((qa 57), .inl (k 1, 6, .inl (fun _ => 0))), ((qa 58), .inl (k 1, 10, .inl (fun _ => 0))), ((qa 59), .inl (k 1, 10, .inl (fun _ => 0))), ((qa 60), .inl (k 1, 10, .inl (fun _ => 0))), ((qa 61), .inr (8, [.ref (qa 62), .ref (qa 63), .ref (qa 64), .ref (qa 65), .ref (qa 66), .ref (qa 67), .ref (qa 68), .int 0, .int (-1), .int 0, .int 0])), ((qa 62), .inl (k 1, 6, .inl (gs 6))), ((qa 63), .inl (k 1, 6, .inl (fun _ => 0))), ((qa 64), .inl (k 1, 6, .inl (fun _ => 0))), ((qa 65), .inl (k 1, 6, .inl (fun _ => 0))), ((qa 66), .inl (k 1, 10, .inl (fun _ => 0))), ((qa 67), .inl (k 1, 10, .inl (fun _ => 0))), ((qa 68), .inl (k 1, 10, .inl (fun _ => 0)))] := hD
      refine lv_icmp_eq (tgt := 1487) hx hb dL_law_1457 (by decide) (fun cx80 => ?_) (fun h9 => absurd (by decide) h9)
      refine lv_iinc (v := 7) (lv' := [(4, .int 7), (3, .ref out), (2, .ref (ma 0)), (1, .ref (qa 0)), (0, .ref b)]) hx hb dL_law_1487 hl (k := 0) rfl (by decide) (by decide) rfl (fun ls hl => ?_)
      refine lv_goto (tgt := 23) hx hb dL_law_1490 (by decide) ?_
      refine lv_iload hx hb dL_law_23 (lv_at hl 0 rfl) ?_
      refine lv_aload_n hx hb dL_law_25 rfl (lv_at hl 4 rfl) ?_
      refine va_slen hx hb hX hbl hbA hS dL_law_26 ?_
      refine p_topI (v := 7) (by decide) ?_
      refine lv_bipush (v := 7) hx hb dL_law_27 (by decide) ?_
      refine lv_isub hx hb dL_law_29 ?_
      refine p_topI (v := 0) (by decide) ?_
      refine lv_icmp_gt (tgt := 1493) hx hb dL_law_30 (by decide) (fun cx81 => ?_) (fun h9 => absurd (by decide) h9)
      refine lv_iconst (v := 1) hx hb dL_law_1493 (by decide) ?_
      refine va_forget (fun q hq => hAf _ (hS.2.2 q hq)) ?_
      refine W.widen (k := 600002) (n := 7302232) (by decide) (by decide) ?_
      exact lw_ret hx hb hr hlocks dL_law_1494
    · skip
      refine lv_iconst (v := 1) hx hb dL_law_1425 (by decide) ?_
      refine lv_goto (tgt := 1430) hx hb dL_law_1426 (by decide) ?_
      refine p_ji (wr := [((qa 9), .inr (8, [.ref (qa 10), .ref (qa 11), .ref (qa 12), .ref (qa 13), .ref (qa 14), .ref (qa 15), .ref (qa 16), .int 0, .int (-1), .int 0, .int 0])), ((qa 10), .inl (k 1, 6, .inl (gs 0))), ((qa 11), .inl (k 1, 6, .inl (fun _ => 0))), ((qa 12), .inl (k 1, 6, .inl (fun _ => 0))), ((qa 13), .inl (k 1, 6, .inl (fun _ => 0))), ((qa 14), .inl (k 1, 10, .inl (fun _ => 0))), ((qa 15), .inl (k 1, 10, .inl (fun _ => 0))), ((qa 16), .inl (k 1, 10, .inl (fun _ => 0))), ((qa 37), .inr (8, [.ref (qa 38), .ref (qa 39), .ref (qa 40), .ref (qa 41), .ref (qa 42), .ref (qa 43), .ref (qa 44), .int 0, .int (-1), .int 0, .int 0])), ((qa 38), .inl (k 1, 6, .inl (gs 3))), ((qa 39), .inl (k 1, 6, .inl (fun _ => 0))), ((qa 40), .inl (k 1, 6, .inl (fun _ => 0))), ((qa 41), .inl (k 1, 6, .inl (fun _ => 0))), ((qa 42), .inl (k 1, 10, .inl (fun _ => 0))), ((qa 43), .inl (k 1, 10, .inl (fun _ => 0))), ((qa 44), .inl (k 1, 10, .inl (fun _ => 0))), ((qa 46), .inl (k 1, 6, .inl (gs 4))), ((qa 47), .inl (k 1, 6, .inl (fun _ => 0))), ((qa 48), .inl (k 1, 6, .inl (fun _ => 0))), ((qa 49), .inl (k 1, 6, .inl (fun _ => 0))), ((qa 50), .inl (k 1, 10, .inl (fun _ => 0))), ((qa 51), .inl (k 1, 10, .inl (fun _ => 0))), ((qa 52), .inl (k 1, 10, .inl (fun _ => 0))), ((qa 53), .inr (8, [.ref (qa 54), .ref (qa 55), .ref (qa 56), .ref (qa 57), .ref (qa 58), .ref (qa 59), .ref (qa 60), .int 0, .int (-1), .int 0, .int 0])), ((qa 54), .inl (k 1, 6, .inl (gs 5))), ((qa 55), .inl (k 1, 6, .inl (fun _ => 0))), ((qa 56), .inl (k 1, 6, .inl (fun _ => 0))), ((qa 57), .inl (k 1, 6, .inl (fun _ => 0))), ((qa 58), .inl (k 1, 10, .inl (fun _ => 0))), ((qa 59), .inl (k 1, 10, .inl (fun _ => 0))), ((qa 60), .inl (k 1, 10, .inl (fun _ => 0))), ((qa 61), .inr (8, [.ref (qa 62), .ref (qa 63), .ref (qa 64), .ref (qa 65), .ref (qa 66), .ref (qa 67), .ref (qa 68), .int 0, .int (-1), .int 0, .int 0])), ((qa 62), .inl (k 1, 6, .inl (gs 6))), ((qa 63), .inl (k 1, 6, .inl (fun _ => 0))), ((qa 64), .inl (k 1, 6, .inl (fun _ => 0))), ((qa 65), .inl (k 1, 6, .inl (fun _ => 0))), ((qa 66), .inl (k 1, 10, .inl (fun _ => 0))), ((qa 67), .inl (k 1, 10, .inl (fun _ => 0))), ((qa 68), .inl (k 1, 10, .inl (fun _ => 0))), ((ma 0), .inr (10, [.int 0, .ref (ma 1), .int 0, .int 0, .ref (ma 4), .ref (ma 5), .ref (ma 6), .int 0, .int 0, .ref (ma 9), .ref (ma 10), .ref (ma 11), .ref (ma 12), .int 0, .ref (ma 14), .ref (ma 15), .int 0, .int 0, .ref (ma 18), .ref (ma 19), .ref (ma 20), .ref (ma 21), .ref (ma 22), .int 0, .ref (ma 24), .int 0, .ref (ma 26), .int 0, .int 0, .int 0, .int 0, .ref (ma 31), .ref (ma 32), .ref (ma 33), .ref (ma 34), .ref (ma 35), .int 0, .int 0, .ref (ma 38), .ref (ma 39), .ref (ma 40), .long 0])), ((ma 22), .inl (k 1, 1320, .inl (mg 22))), ((ma 24), .inl (k 3, 4, .inl (mg 24)))]) (va_runV (As := [.int 1, .int 1]) (rest := []) ⟨hx, hb, hml, hown, hts⟩ (c_mark_1_1 l D k _ qa) (cwV 2 hts lg_106 rfl rfl rfl (by decide +kernel) ⟨Nat.le_of_ble_eq_true rfl, Nat.le_of_ble_eq_true rfl⟩) (pV hK hN hP hD [0, 9, 18] rfl (by decide) rfl 0 rfl rfl) rfl rfl hl.1 rfl (lv_room (Nat.le_of_ble_eq_true rfl)) dL_law_1430 ⟨by decide, by decide⟩) hP hD hS hA [0, 9, 18] [1, 2, 3, 4, 5, 6, 7, 8, 10, 11, 12, 13, 14, 15, 16, 17, 19, 20, 21, 22, 23, 24, 25, 26, 27, 28, 29, 30, 31, 32, 33, 34, 35, 36, 37, 38, 39, 40, 41, 42, 43, 44] rfl rfl (by decide) (by decide) (fun rx84 ux82 H locs wx83 hP hD hS => ?_)
      have hx85 : rx84 = 0 := wx83
      subst hx85
      have hP : va_P D vwCl [((qa 9), .inr (8, [.ref (qa 10), .ref (qa 11), .ref (qa 12), .ref (qa 13), .ref (qa 14), .ref (qa 15), .ref (qa 16), .int 0, .int (-1), .int 0, .int 0])), ((qa 10), .inl (k 1, 6, .inl (gs 0))), ((qa 11), .inl (k 1, 6, .inl (fun _ => 0))), ((qa 12), .inl (k 1, 6, .inl (fun _ => 0))), ((qa 13), .inl (k 1, 6, .inl (fun _ => 0))), ((qa 14), .inl (k 1, 10, .inl (fun _ => 0))), ((qa 15), .inl (k 1, 10, .inl (fun _ => 0))), ((qa 16), .inl (k 1, 10, .inl (fun _ => 0))), ((qa 37), .inr (8, [.ref (qa 38), .ref (qa 39), .ref (qa 40), .ref (qa 41), .ref (qa 42), .ref (qa 43), .ref (qa 44), .int 0, .int (-1), .int 0, .int 0])), ((qa 38), .inl (k 1, 6, .inl (gs 3))), ((qa 39), .inl (k 1, 6, .inl (fun _ => 0))), ((qa 40), .inl (k 1, 6, .inl (fun _ => 0))), ((qa 41), .inl (k 1, 6, .inl (fun _ => 0))), ((qa 42), .inl (k 1, 10, .inl (fun _ => 0))), ((qa 43), .inl (k 1, 10, .inl (fun _ => 0))), ((qa 44), .inl (k 1, 10, .inl (fun _ => 0))), ((qa 46), .inl (k 1, 6, .inl (gs 4))), ((qa 47), .inl (k 1, 6, .inl (fun _ => 0))), ((qa 48), .inl (k 1, 6, .inl (fun _ => 0))), ((qa 49), .inl (k 1, 6, .inl (fun _ => 0))), ((qa 50), .inl (k 1, 10, .inl (fun _ => 0))), ((qa 51), .inl (k 1, 10, .inl (fun _ => 0))), ((qa 52), .inl (k 1, 10, .inl (fun _ => 0))), ((qa 53), .inr (8, [.ref (qa 54), .ref (qa 55), .ref (qa 56), .ref (qa 57), .ref (qa 58), .ref (qa 59), .ref (qa 60), .int 0, .int (-1), .int 0, .int 0])), ((qa 54), .inl (k 1, 6, .inl (gs 5))), ((qa 55), .inl (k 1, 6, .inl (fun _ => 0))), ((qa 56), .inl (k 1, 6, .inl (fun _ => 0))), ((qa 57), .inl (k 1, 6, .inl (fun _ => 0))), ((qa 58), .inl (k 1, 10, .inl (fun _ => 0))), ((qa 59), .inl (k 1, 10, .inl (fun _ => 0))), ((qa 60), .inl (k 1, 10, .inl (fun _ => 0))), ((qa 61), .inr (8, [.ref (qa 62), .ref (qa 63), .ref (qa 64), .ref (qa 65), .ref (qa 66), .ref (qa 67), .ref (qa 68), .int 0, .int (-1), .int 0, .int 0])), ((qa 62), .inl (k 1, 6, .inl (gs 6))), ((qa 63), .inl (k 1, 6, .inl (fun _ => 0))), ((qa 64), .inl (k 1, 6, .inl (fun _ => 0))), ((qa 65), .inl (k 1, 6, .inl (fun _ => 0))), ((qa 66), .inl (k 1, 10, .inl (fun _ => 0))), ((qa 67), .inl (k 1, 10, .inl (fun _ => 0))), ((qa 68), .inl (k 1, 10, .inl (fun _ => 0))), ((ma 0), .inr (10, [.int 0, .ref (ma 1), .int 0, .int 0, .ref (ma 4), .ref (ma 5), .ref (ma 6), .int 0, .int 0, .ref (ma 9), .ref (ma 10), .ref (ma 11), .ref (ma 12), .int 0, .ref (ma 14), .ref (ma 15), .int 0, .int 0, .ref (ma 18), .ref (ma 19), .ref (ma 20), .ref (ma 21), .ref (ma 22), .int 0, .ref (ma 24), .int 0, .ref (ma 26), .int 0, .int 0, .int 0, .int 0, .ref (ma 31), .ref (ma 32), .ref (ma 33), .ref (ma 34), .ref (ma 35), .int 0, .int 0, .ref (ma 38), .ref (ma 39), .ref (ma 40), .long 0])), ((ma 22), .inl (k 1, 1320, .inl (mg 22))), ((ma 24), .inl (k 3, 4, .inl (mg 24)))] H := hP
      have hD : va_D A [((qa 9), .inr (8, [.ref (qa 10), .ref (qa 11), .ref (qa 12), .ref (qa 13), .ref (qa 14), .ref (qa 15), .ref (qa 16), .int 0, .int (-1), .int 0, .int 0])), ((qa 10), .inl (k 1, 6, .inl (gs 0))), ((qa 11), .inl (k 1, 6, .inl (fun _ => 0))), ((qa 12), .inl (k 1, 6, .inl (fun _ => 0))), ((qa 13), .inl (k 1, 6, .inl (fun _ => 0))), ((qa 14), .inl (k 1, 10, .inl (fun _ => 0))), ((qa 15), .inl (k 1, 10, .inl (fun _ => 0))), ((qa 16), .inl (k 1, 10, .inl (fun _ => 0))), ((qa 37), .inr (8, [.ref (qa 38), .ref (qa 39), .ref (qa 40), .ref (qa 41), .ref (qa 42), .ref (qa 43), .ref (qa 44), .int 0, .int (-1), .int 0, .int 0])), ((qa 38), .inl (k 1, 6, .inl (gs 3))), ((qa 39), .inl (k 1, 6, .inl (fun _ => 0))), ((qa 40), .inl (k 1, 6, .inl (fun _ => 0))), ((qa 41), .inl (k 1, 6, .inl (fun _ => 0))), ((qa 42), .inl (k 1, 10, .inl (fun _ => 0))), ((qa 43), .inl (k 1, 10, .inl (fun _ => 0))), ((qa 44), .inl (k 1, 10, .inl (fun _ => 0))), ((qa 46), .inl (k 1, 6, .inl (gs 4))), ((qa 47), .inl (k 1, 6, .inl (fun _ => 0))), ((qa 48), .inl (k 1, 6, .inl (fun _ => 0))), ((qa 49), .inl (k 1, 6, .inl (fun _ => 0))), ((qa 50), .inl (k 1, 10, .inl (fun _ => 0))), ((qa 51), .inl (k 1, 10, .inl (fun _ => 0))), ((qa 52), .inl (k 1, 10, .inl (fun _ => 0))), ((qa 53), .inr (8, [.ref (qa 54), .ref (qa 55), .ref (qa 56), .ref (qa 57), .ref (qa 58), .ref (qa 59), .ref (qa 60), .int 0, .int (-1), .int 0, .int 0])), ((qa 54), .inl (k 1, 6, .inl (gs 5))), ((qa 55), .inl (k 1, 6, .inl (fun _ => 0))), ((qa 56), .inl (k 1, 6, .inl (fun _ => 0))), ((qa 57), .inl (k 1, 6, .inl (fun _ => 0))), ((qa 58), .inl (k 1, 10, .inl (fun _ => 0))), ((qa 59), .inl (k 1, 10, .inl (fun _ => 0))), ((qa 60), .inl (k 1, 10, .inl (fun _ => 0))), ((qa 61), .inr (8, [.ref (qa 62), .ref (qa 63), .ref (qa 64), .ref (qa 65), .ref (qa 66), .ref (qa 67), .ref (qa 68), .int 0, .int (-1), .int 0, .int 0])), ((qa 62), .inl (k 1, 6, .inl (gs 6))), ((qa 63), .inl (k 1, 6, .inl (fun _ => 0))), ((qa 64), .inl (k 1, 6, .inl (fun _ => 0))), ((qa 65), .inl (k 1, 6, .inl (fun _ => 0))), ((qa 66), .inl (k 1, 10, .inl (fun _ => 0))), ((qa 67), .inl (k 1, 10, .inl (fun _ => 0))), ((qa 68), .inl (k 1, 10, .inl (fun _ => 0))), ((ma 0), .inr (10, [.int 0, .ref (ma 1), .int 0, .int 0, .ref (ma 4), .ref (ma 5), .ref (ma 6), .int 0, .int 0, .ref (ma 9), .ref (ma 10), .ref (ma 11), .ref (ma 12), .int 0, .ref (ma 14), .ref (ma 15), .int 0, .int 0, .ref (ma 18), .ref (ma 19), .ref (ma 20), .ref (ma 21), .ref (ma 22), .int 0, .ref (ma 24), .int 0, .ref (ma 26), .int 0, .int 0, .int 0, .int 0, .ref (ma 31), .ref (ma 32), .ref (ma 33), .ref (ma 34), .ref (ma 35), .int 0, .int 0, .ref (ma 38), .ref (ma 39), .ref (ma 40), .long 0])), ((ma 22), .inl (k 1, 1320, .inl (mg 22))), ((ma 24), .inl (k 3, 4, .inl (mg 24)))] := hD
      refine lv_aload_n hx hb dL_law_1433 rfl (lv_at hl 2 rfl) ?_
      refine lv_aload_n hx hb dL_law_1434 rfl (lv_at hl 4 rfl) ?_
      refine lv_iload hx hb dL_law_1435 (lv_at hl 0 rfl) ?_
      refine lv_iconst (v := 1) hx hb dL_law_1437 (by decide) ?_
      refine lv_iadd hx hb dL_law_1438 ?_
      refine p_topI (v := 1) (by decide) ?_
      refine va_sld hx hb hX hbl hbA hS (show ¬ (_ ∨ _) by decide) dL_law_1439 ?_
      refine p_topI (v := 1) cC ?_
      refine lv_aload_n hx hb dL_law_1440 rfl (lv_at hl 4 rfl) ?_
      refine lv_iload hx hb dL_law_1441 (lv_at hl 0 rfl) ?_
      refine lv_iconst (v := 2) hx hb dL_law_1443 (by decide) ?_
      refine lv_iadd hx hb dL_law_1444 ?_
      refine p_topI (v := 2) (by decide) ?_
      refine va_sld hx hb hX hbl hbA hS (show ¬ (_ ∨ _) by decide) dL_law_1445 ?_
      refine p_topI (v := (xs 2)) rfl ?_
      refine lv_if_eq (tgt := 1453) hx hb dL_law_1446 (by decide) (fun h9 => absurd h9 cx70) (fun cx86 => ?_)
      refine lv_iconst (v := 1) hx hb dL_law_1449 (by decide) ?_
      refine lv_goto (tgt := 1454) hx hb dL_law_1450 (by decide) ?_
      refine p_ji (wr := [((qa 9), .inr (8, [.ref (qa 10), .ref (qa 11), .ref (qa 12), .ref (qa 13), .ref (qa 14), .ref (qa 15), .ref (qa 16), .int 0, .int (-1), .int 0, .int 0])), ((qa 10), .inl (k 1, 6, .inl (gs 0))), ((qa 11), .inl (k 1, 6, .inl (fun _ => 0))), ((qa 12), .inl (k 1, 6, .inl (fun _ => 0))), ((qa 13), .inl (k 1, 6, .inl (fun _ => 0))), ((qa 14), .inl (k 1, 10, .inl (fun _ => 0))), ((qa 15), .inl (k 1, 10, .inl (fun _ => 0))), ((qa 16), .inl (k 1, 10, .inl (fun _ => 0))), ((qa 37), .inr (8, [.ref (qa 38), .ref (qa 39), .ref (qa 40), .ref (qa 41), .ref (qa 42), .ref (qa 43), .ref (qa 44), .int 0, .int (-1), .int 0, .int 0])), ((qa 38), .inl (k 1, 6, .inl (gs 3))), ((qa 39), .inl (k 1, 6, .inl (fun _ => 0))), ((qa 40), .inl (k 1, 6, .inl (fun _ => 0))), ((qa 41), .inl (k 1, 6, .inl (fun _ => 0))), ((qa 42), .inl (k 1, 10, .inl (fun _ => 0))), ((qa 43), .inl (k 1, 10, .inl (fun _ => 0))), ((qa 44), .inl (k 1, 10, .inl (fun _ => 0))), ((qa 46), .inl (k 1, 6, .inl (gs 4))), ((qa 47), .inl (k 1, 6, .inl (fun _ => 0))), ((qa 48), .inl (k 1, 6, .inl (fun _ => 0))), ((qa 49), .inl (k 1, 6, .inl (fun _ => 0))), ((qa 50), .inl (k 1, 10, .inl (fun _ => 0))), ((qa 51), .inl (k 1, 10, .inl (fun _ => 0))), ((qa 52), .inl (k 1, 10, .inl (fun _ => 0))), ((qa 53), .inr (8, [.ref (qa 54), .ref (qa 55), .ref (qa 56), .ref (qa 57), .ref (qa 58), .ref (qa 59), .ref (qa 60), .int 0, .int (-1), .int 0, .int 0])), ((qa 54), .inl (k 1, 6, .inl (gs 5))), ((qa 55), .inl (k 1, 6, .inl (fun _ => 0))), ((qa 56), .inl (k 1, 6, .inl (fun _ => 0))), ((qa 57), .inl (k 1, 6, .inl (fun _ => 0))), ((qa 58), .inl (k 1, 10, .inl (fun _ => 0))), ((qa 59), .inl (k 1, 10, .inl (fun _ => 0))), ((qa 60), .inl (k 1, 10, .inl (fun _ => 0))), ((qa 61), .inr (8, [.ref (qa 62), .ref (qa 63), .ref (qa 64), .ref (qa 65), .ref (qa 66), .ref (qa 67), .ref (qa 68), .int 0, .int (-1), .int 0, .int 0])), ((qa 62), .inl (k 1, 6, .inl (gs 6))), ((qa 63), .inl (k 1, 6, .inl (fun _ => 0))), ((qa 64), .inl (k 1, 6, .inl (fun _ => 0))), ((qa 65), .inl (k 1, 6, .inl (fun _ => 0))), ((qa 66), .inl (k 1, 10, .inl (fun _ => 0))), ((qa 67), .inl (k 1, 10, .inl (fun _ => 0))), ((qa 68), .inl (k 1, 10, .inl (fun _ => 0))), ((ma 22), .inl (k 1, 1320, .inl (mg 22)))]) (va_runV (As := [.int 1, .int 1]) (rest := [.int 0]) ⟨hx, hb, hml, hown, hts⟩ (c_m_mark_1_1 l D k _ ma mg hm1) (cwV 2 hts lg_107 rfl rfl rfl (by decide +kernel) ⟨Nat.le_of_ble_eq_true rfl, Nat.le_of_ble_eq_true rfl⟩) (pV hK hN hP hD [39, 41] rfl (by decide) rfl 39 rfl rfl) rfl rfl hl.1 rfl (lv_room (Nat.le_of_ble_eq_true rfl)) dL_law_1454 ⟨by decide, by decide⟩) hP hD hS hA [39, 41] [0, 1, 2, 3, 4, 5, 6, 7, 8, 9, 10, 11, 12, 13, 14, 15, 16, 17, 18, 19, 20, 21, 22, 23, 24, 25, 26, 27, 28, 29, 30, 31, 32, 33, 34, 35, 36, 37, 38, 40] rfl rfl (by decide) (by decide) (fun rx89 ux87 H locs wx88 hP hD hS => ?_)
      have hx90 : rx89 = 0 := wx88
      subst hx90
      have hP : va_P D vwCl [((qa 9), .inr (8, [.ref (qa 10), .ref (qa 11), .ref (qa 12), .ref (qa 13), .ref (qa 14), .ref (qa 15), .ref (qa 16), .int 0, .int (-1), .int 0, .int 0])), ((qa 10), .inl (k 1, 6, .inl (gs 0))), ((qa 11), .inl (k 1, 6, .inl (fun _ => 0))), ((qa 12), .inl (k 1, 6, .inl (fun _ => 0))), ((qa 13), .inl (k 1, 6, .inl (fun _ => 0))), ((qa 14), .inl (k 1, 10, .inl (fun _ => 0))), ((qa 15), .inl (k 1, 10, .inl (fun _ => 0))), ((qa 16), .inl (k 1, 10, .inl (fun _ => 0))), ((qa 37), .inr (8, [.ref (qa 38), .ref (qa 39), .ref (qa 40), .ref (qa 41), .ref (qa 42), .ref (qa 43), .ref (qa 44), .int 0, .int (-1), .int 0, .int 0])), ((qa 38), .inl (k 1, 6, .inl (gs 3))), ((qa 39), .inl (k 1, 6, .inl (fun _ => 0))), ((qa 40), .inl (k 1, 6, .inl (fun _ => 0))), ((qa 41), .inl (k 1, 6, .inl (fun _ => 0))), ((qa 42), .inl (k 1, 10, .inl (fun _ => 0))), ((qa 43), .inl (k 1, 10, .inl (fun _ => 0))), ((qa 44), .inl (k 1, 10, .inl (fun _ => 0))), ((qa 46), .inl (k 1, 6, .inl (gs 4))), ((qa 47), .inl (k 1, 6, .inl (fun _ => 0))), ((qa 48), .inl (k 1, 6, .inl (fun _ => 0))), ((qa 49), .inl (k 1, 6, .inl (fun _ => 0))), ((qa 50), .inl (k 1, 10, .inl (fun _ => 0))), ((qa 51), .inl (k 1, 10, .inl (fun _ => 0))), ((qa 52), .inl (k 1, 10, .inl (fun _ => 0))), ((qa 53), .inr (8, [.ref (qa 54), .ref (qa 55), .ref (qa 56), .ref (qa 57), .ref (qa 58), .ref (qa 59), .ref (qa 60), .int 0, .int (-1), .int 0, .int 0])), ((qa 54), .inl (k 1, 6, .inl (gs 5))), ((qa 55), .inl (k 1, 6, .inl (fun _ => 0))), ((qa 56), .inl (k 1, 6, .inl (fun _ => 0))), ((qa 57), .inl (k 1, 6, .inl (fun _ => 0))), ((qa 58), .inl (k 1, 10, .inl (fun _ => 0))), ((qa 59), .inl (k 1, 10, .inl (fun _ => 0))), ((qa 60), .inl (k 1, 10, .inl (fun _ => 0))), ((qa 61), .inr (8, [.ref (qa 62), .ref (qa 63), .ref (qa 64), .ref (qa 65), .ref (qa 66), .ref (qa 67), .ref (qa 68), .int 0, .int (-1), .int 0, .int 0])), ((qa 62), .inl (k 1, 6, .inl (gs 6))), ((qa 63), .inl (k 1, 6, .inl (fun _ => 0))), ((qa 64), .inl (k 1, 6, .inl (fun _ => 0))), ((qa 65), .inl (k 1, 6, .inl (fun _ => 0))), ((qa 66), .inl (k 1, 10, .inl (fun _ => 0))), ((qa 67), .inl (k 1, 10, .inl (fun _ => 0))), ((qa 68), .inl (k 1, 10, .inl (fun _ => 0))), ((ma 22), .inl (k 1, 1320, .inl (mg 22)))] H := hP
      have hD : va_D A [((qa 9), .inr (8, [.ref (qa 10), .ref (qa 11), .ref (qa 12), .ref (qa 13), .ref (qa 14), .ref (qa 15), .ref (qa 16), .int 0, .int (-1), .int 0, .int 0])), ((qa 10), .inl (k 1, 6, .inl (gs 0))), ((qa 11), .inl (k 1, 6, .inl (fun _ => 0))), ((qa 12), .inl (k 1, 6, .inl (fun _ => 0))), ((qa 13), .inl (k 1, 6, .inl (fun _ => 0))), ((qa 14), .inl (k 1, 10, .inl (fun _ => 0))), ((qa 15), .inl (k 1, 10, .inl (fun _ => 0))), ((qa 16), .inl (k 1, 10, .inl (fun _ => 0))), ((qa 37), .inr (8, [.ref (qa 38), .ref (qa 39), .ref (qa 40), .ref (qa 41), .ref (qa 42), .ref (qa 43), .ref (qa 44), .int 0, .int (-1), .int 0, .int 0])), ((qa 38), .inl (k 1, 6, .inl (gs 3))), ((qa 39), .inl (k 1, 6, .inl (fun _ => 0))), ((qa 40), .inl (k 1, 6, .inl (fun _ => 0))), ((qa 41), .inl (k 1, 6, .inl (fun _ => 0))), ((qa 42), .inl (k 1, 10, .inl (fun _ => 0))), ((qa 43), .inl (k 1, 10, .inl (fun _ => 0))), ((qa 44), .inl (k 1, 10, .inl (fun _ => 0))), ((qa 46), .inl (k 1, 6, .inl (gs 4))), ((qa 47), .inl (k 1, 6, .inl (fun _ => 0))), ((qa 48), .inl (k 1, 6, .inl (fun _ => 0))), ((qa 49), .inl (k 1, 6, .inl (fun _ => 0))), ((qa 50), .inl (k 1, 10, .inl (fun _ => 0))), ((qa 51), .inl (k 1, 10, .inl (fun _ => 0))), ((qa 52), .inl (k 1, 10, .inl (fun _ => 0))), ((qa 53), .inr (8, [.ref (qa 54), .ref (qa 55), .ref (qa 56), .ref (qa 57), .ref (qa 58), .ref (qa 59), .ref (qa 60), .int 0, .int (-1), .int 0, .int 0])), ((qa 54), .inl (k 1, 6, .inl (gs 5))), ((qa 55), .inl (k 1, 6, .inl (fun _ => 0))), ((qa 56), .inl (k 1, 6, .inl (fun _ => 0))), ((qa 57), .inl (k 1, 6, .inl (fun _ => 0))), ((qa 58), .inl (k 1, 10, .inl (fun _ => 0))), ((qa 59), .inl (k 1, 10, .inl (fun _ => 0))), ((qa 60), .inl (k 1, 10, .inl (fun _ => 0))), ((qa 61), .inr (8, [.ref (qa 62), .ref (qa 63), .ref (qa 64), .ref (qa 65), .ref (qa 66), .ref (qa 67), .ref (qa 68), .int 0, .int (-1), .int 0, .int 0])), ((qa 62), .inl (k 1, 6, .inl (gs 6))), ((qa 63), .inl (k 1, 6, .inl (fun _ => 0))), ((qa 64), .inl (k 1, 6, .inl (fun _ => 0))), ((qa 65), .inl (k 1, 6, .inl (fun _ => 0))), ((qa 66), .inl (k 1, 10, .inl (fun _ => 0))), ((qa 67), .inl (k 1, 10, .inl (fun _ => 0))), ((qa 68), .inl (k 1, 10, .inl (fun _ => 0))), ((ma 22), .inl (k 1, 1320, .inl (mg 22)))] := hD
      refine lv_icmp_eq (tgt := 1487) hx hb dL_law_1457 (by decide) (fun cx91 => ?_) (fun h9 => absurd (by decide) h9)
      refine lv_iinc (v := 7) (lv' := [(4, .int 7), (3, .ref out), (2, .ref (ma 0)), (1, .ref (qa 0)), (0, .ref b)]) hx hb dL_law_1487 hl (k := 0) rfl (by decide) (by decide) rfl (fun ls hl => ?_)
      refine lv_goto (tgt := 23) hx hb dL_law_1490 (by decide) ?_
      refine lv_iload hx hb dL_law_23 (lv_at hl 0 rfl) ?_
      refine lv_aload_n hx hb dL_law_25 rfl (lv_at hl 4 rfl) ?_
      refine va_slen hx hb hX hbl hbA hS dL_law_26 ?_
      refine p_topI (v := 7) (by decide) ?_
      refine lv_bipush (v := 7) hx hb dL_law_27 (by decide) ?_
      refine lv_isub hx hb dL_law_29 ?_
      refine p_topI (v := 0) (by decide) ?_
      refine lv_icmp_gt (tgt := 1493) hx hb dL_law_30 (by decide) (fun cx92 => ?_) (fun h9 => absurd (by decide) h9)
      refine lv_iconst (v := 1) hx hb dL_law_1493 (by decide) ?_
      refine va_forget (fun q hq => hAf _ (hS.2.2 q hq)) ?_
      refine W.widen (k := 600002) (n := 7302232) (by decide) (by decide) ?_
      exact lw_ret hx hb hr hlocks dL_law_1494
  · skip
    refine lv_aload_n hx hb dL_law_1409 rfl (lv_at hl 3 rfl) ?_
    refine lv_aload_n hx hb dL_law_1410 rfl (lv_at hl 4 rfl) ?_
    refine lv_iload hx hb dL_law_1411 (lv_at hl 0 rfl) ?_
    refine lv_iconst (v := 1) hx hb dL_law_1413 (by decide) ?_
    refine lv_iadd hx hb dL_law_1414 ?_
    refine p_topI (v := 1) (by decide) ?_
    refine va_sld hx hb hX hbl hbA hS (show ¬ (_ ∨ _) by decide) dL_law_1415 ?_
    refine p_topI (v := 2) cC ?_
    refine lv_aload_n hx hb dL_law_1416 rfl (lv_at hl 4 rfl) ?_
    refine lv_iload hx hb dL_law_1417 (lv_at hl 0 rfl) ?_
    refine lv_iconst (v := 2) hx hb dL_law_1419 (by decide) ?_
    refine lv_iadd hx hb dL_law_1420 ?_
    refine p_topI (v := 2) (by decide) ?_
    refine va_sld hx hb hX hbl hbA hS (show ¬ (_ ∨ _) by decide) dL_law_1421 ?_
    refine p_topI (v := (xs 2)) rfl ?_
    refine lv_if_eq (tgt := 1429) hx hb dL_law_1422 (by decide) (fun cx93 => ?_) (fun cx93 => ?_)
    · skip
      refine lv_iconst (v := 0) hx hb dL_law_1429 (by decide) ?_
      refine p_ji (wr := [((qa 37), .inr (8, [.ref (qa 38), .ref (qa 39), .ref (qa 40), .ref (qa 41), .ref (qa 42), .ref (qa 43), .ref (qa 44), .int 0, .int (-1), .int 0, .int 0])), ((qa 38), .inl (k 1, 6, .inl (gs 3))), ((qa 39), .inl (k 1, 6, .inl (fun _ => 0))), ((qa 40), .inl (k 1, 6, .inl (fun _ => 0))), ((qa 41), .inl (k 1, 6, .inl (fun _ => 0))), ((qa 42), .inl (k 1, 10, .inl (fun _ => 0))), ((qa 43), .inl (k 1, 10, .inl (fun _ => 0))), ((qa 44), .inl (k 1, 10, .inl (fun _ => 0))), ((qa 45), .inr (8, [.ref (qa 46), .ref (qa 47), .ref (qa 48), .ref (qa 49), .ref (qa 50), .ref (qa 51), .ref (qa 52), .int 0, .int (-1), .int 0, .int 0])), ((qa 46), .inl (k 1, 6, .inl (gs 4))), ((qa 47), .inl (k 1, 6, .inl (fun _ => 0))), ((qa 48), .inl (k 1, 6, .inl (fun _ => 0))), ((qa 49), .inl (k 1, 6, .inl (fun _ => 0))), ((qa 50), .inl (k 1, 10, .inl (fun _ => 0))), ((qa 51), .inl (k 1, 10, .inl (fun _ => 0))), ((qa 52), .inl (k 1, 10, .inl (fun _ => 0))), ((qa 61), .inr (8, [.ref (qa 62), .ref (qa 63), .ref (qa 64), .ref (qa 65), .ref (qa 66), .ref (qa 67), .ref (qa 68), .int 0, .int (-1), .int 0, .int 0])), ((qa 62), .inl (k 1, 6, .inl (gs 6))), ((qa 63), .inl (k 1, 6, .inl (fun _ => 0))), ((qa 64), .inl (k 1, 6, .inl (fun _ => 0))), ((qa 65), .inl (k 1, 6, .inl (fun _ => 0))), ((qa 66), .inl (k 1, 10, .inl (fun _ => 0))), ((qa 67), .inl (k 1, 10, .inl (fun _ => 0))), ((qa 68), .inl (k 1, 10, .inl (fun _ => 0))), ((ma 0), .inr (10, [.int 0, .ref (ma 1), .int 0, .int 0, .ref (ma 4), .ref (ma 5), .ref (ma 6), .int 0, .int 0, .ref (ma 9), .ref (ma 10), .ref (ma 11), .ref (ma 12), .int 0, .ref (ma 14), .ref (ma 15), .int 0, .int 0, .ref (ma 18), .ref (ma 19), .ref (ma 20), .ref (ma 21), .ref (ma 22), .int 0, .ref (ma 24), .int 0, .ref (ma 26), .int 0, .int 0, .int 0, .int 0, .ref (ma 31), .ref (ma 32), .ref (ma 33), .ref (ma 34), .ref (ma 35), .int 0, .int 0, .ref (ma 38), .ref (ma 39), .ref (ma 40), .long 0])), ((ma 22), .inl (k 1, 1320, .inl (mg 22))), ((ma 24), .inl (k 3, 4, .inl (mg 24)))]) (va_runV (As := [.int 2, .int 0]) (rest := []) ⟨hx, hb, hml, hown, hts⟩ (c_mark_2_0 l D k _ qa (gs 5) (gs 0)) (cwV 2 hts lg_108 rfl rfl rfl (by decide +kernel) ⟨Nat.le_of_ble_eq_true rfl, Nat.le_of_ble_eq_true rfl⟩) (pV hK hN hP hD [0, 9, 26, 27, 28, 29, 30, 31, 32, 33, 1, 2, 3, 4, 5, 6, 7, 8] rfl (by decide) rfl 0 rfl rfl) rfl rfl hl.1 rfl (lv_room (Nat.le_of_ble_eq_true rfl)) dL_law_1430 ⟨by decide, by decide⟩) hP hD hS hA [0, 9, 26, 27, 28, 29, 30, 31, 32, 33, 1, 2, 3, 4, 5, 6, 7, 8] [10, 11, 12, 13, 14, 15, 16, 17, 18, 19, 20, 21, 22, 23, 24, 25, 34, 35, 36, 37, 38, 39, 40, 41, 42, 43, 44] rfl rfl (by decide) (by decide) (fun rx96 ux94 H locs wx95 hP hD hS => ?_)
      have hx97 : rx96 = 1 := wx95
      subst hx97
      have hP : va_P D vwCl [((qa 37), .inr (8, [.ref (qa 38), .ref (qa 39), .ref (qa 40), .ref (qa 41), .ref (qa 42), .ref (qa 43), .ref (qa 44), .int 0, .int (-1), .int 0, .int 0])), ((qa 38), .inl (k 1, 6, .inl (gs 3))), ((qa 39), .inl (k 1, 6, .inl (fun _ => 0))), ((qa 40), .inl (k 1, 6, .inl (fun _ => 0))), ((qa 41), .inl (k 1, 6, .inl (fun _ => 0))), ((qa 42), .inl (k 1, 10, .inl (fun _ => 0))), ((qa 43), .inl (k 1, 10, .inl (fun _ => 0))), ((qa 44), .inl (k 1, 10, .inl (fun _ => 0))), ((qa 45), .inr (8, [.ref (qa 46), .ref (qa 47), .ref (qa 48), .ref (qa 49), .ref (qa 50), .ref (qa 51), .ref (qa 52), .int 0, .int (-1), .int 0, .int 0])), ((qa 46), .inl (k 1, 6, .inl (gs 4))), ((qa 47), .inl (k 1, 6, .inl (fun _ => 0))), ((qa 48), .inl (k 1, 6, .inl (fun _ => 0))), ((qa 49), .inl (k 1, 6, .inl (fun _ => 0))), ((qa 50), .inl (k 1, 10, .inl (fun _ => 0))), ((qa 51), .inl (k 1, 10, .inl (fun _ => 0))), ((qa 52), .inl (k 1, 10, .inl (fun _ => 0))), ((qa 61), .inr (8, [.ref (qa 62), .ref (qa 63), .ref (qa 64), .ref (qa 65), .ref (qa 66), .ref (qa 67), .ref (qa 68), .int 0, .int (-1), .int 0, .int 0])), ((qa 62), .inl (k 1, 6, .inl (gs 6))), ((qa 63), .inl (k 1, 6, .inl (fun _ => 0))), ((qa 64), .inl (k 1, 6, .inl (fun _ => 0))), ((qa 65), .inl (k 1, 6, .inl (fun _ => 0))), ((qa 66), .inl (k 1, 10, .inl (fun _ => 0))), ((qa 67), .inl (k 1, 10, .inl (fun _ => 0))), ((qa 68), .inl (k 1, 10, .inl (fun _ => 0))), ((ma 0), .inr (10, [.int 0, .ref (ma 1), .int 0, .int 0, .ref (ma 4), .ref (ma 5), .ref (ma 6), .int 0, .int 0, .ref (ma 9), .ref (ma 10), .ref (ma 11), .ref (ma 12), .int 0, .ref (ma 14), .ref (ma 15), .int 0, .int 0, .ref (ma 18), .ref (ma 19), .ref (ma 20), .ref (ma 21), .ref (ma 22), .int 0, .ref (ma 24), .int 0, .ref (ma 26), .int 0, .int 0, .int 0, .int 0, .ref (ma 31), .ref (ma 32), .ref (ma 33), .ref (ma 34), .ref (ma 35), .int 0, .int 0, .ref (ma 38), .ref (ma 39), .ref (ma 40), .long 0])), ((ma 22), .inl (k 1, 1320, .inl (mg 22))), ((ma 24), .inl (k 3, 4, .inl (mg 24)))] H := hP
      have hD : va_D A [((qa 37), .inr (8, [.ref (qa 38), .ref (qa 39), .ref (qa 40), .ref (qa 41), .ref (qa 42), .ref (qa 43), .ref (qa 44), .int 0, .int (-1), .int 0, .int 0])), ((qa 38), .inl (k 1, 6, .inl (gs 3))), ((qa 39), .inl (k 1, 6, .inl (fun _ => 0))), ((qa 40), .inl (k 1, 6, .inl (fun _ => 0))), ((qa 41), .inl (k 1, 6, .inl (fun _ => 0))), ((qa 42), .inl (k 1, 10, .inl (fun _ => 0))), ((qa 43), .inl (k 1, 10, .inl (fun _ => 0))), ((qa 44), .inl (k 1, 10, .inl (fun _ => 0))), ((qa 45), .inr (8, [.ref (qa 46), .ref (qa 47), .ref (qa 48), .ref (qa 49), .ref (qa 50), .ref (qa 51), .ref (qa 52), .int 0, .int (-1), .int 0, .int 0])), ((qa 46), .inl (k 1, 6, .inl (gs 4))), ((qa 47), .inl (k 1, 6, .inl (fun _ => 0))), ((qa 48), .inl (k 1, 6, .inl (fun _ => 0))), ((qa 49), .inl (k 1, 6, .inl (fun _ => 0))), ((qa 50), .inl (k 1, 10, .inl (fun _ => 0))), ((qa 51), .inl (k 1, 10, .inl (fun _ => 0))), ((qa 52), .inl (k 1, 10, .inl (fun _ => 0))), ((qa 61), .inr (8, [.ref (qa 62), .ref (qa 63), .ref (qa 64), .ref (qa 65), .ref (qa 66), .ref (qa 67), .ref (qa 68), .int 0, .int (-1), .int 0, .int 0])), ((qa 62), .inl (k 1, 6, .inl (gs 6))), ((qa 63), .inl (k 1, 6, .inl (fun _ => 0))), ((qa 64), .inl (k 1, 6, .inl (fun _ => 0))), ((qa 65), .inl (k 1, 6, .inl (fun _ => 0))), ((qa 66), .inl (k 1, 10, .inl (fun _ => 0))), ((qa 67), .inl (k 1, 10, .inl (fun _ => 0))), ((qa 68), .inl (k 1, 10, .inl (fun _ => 0))), ((ma 0), .inr (10, [.int 0, .ref (ma 1), .int 0, .int 0, .ref (ma 4), .ref (ma 5), .ref (ma 6), .int 0, .int 0, .ref (ma 9), .ref (ma 10), .ref (ma 11), .ref (ma 12), .int 0, .ref (ma 14), .ref (ma 15), .int 0, .int 0, .ref (ma 18), .ref (ma 19), .ref (ma 20), .ref (ma 21), .ref (ma 22), .int 0, .ref (ma 24), .int 0, .ref (ma 26), .int 0, .int 0, .int 0, .int 0, .ref (ma 31), .ref (ma 32), .ref (ma 33), .ref (ma 34), .ref (ma 35), .int 0, .int 0, .ref (ma 38), .ref (ma 39), .ref (ma 40), .long 0])), ((ma 22), .inl (k 1, 1320, .inl (mg 22))), ((ma 24), .inl (k 3, 4, .inl (mg 24)))] := hD
      refine lv_aload_n hx hb dL_law_1433 rfl (lv_at hl 2 rfl) ?_
      refine lv_aload_n hx hb dL_law_1434 rfl (lv_at hl 4 rfl) ?_
      refine lv_iload hx hb dL_law_1435 (lv_at hl 0 rfl) ?_
      refine lv_iconst (v := 1) hx hb dL_law_1437 (by decide) ?_
      refine lv_iadd hx hb dL_law_1438 ?_
      refine p_topI (v := 1) (by decide) ?_
      refine va_sld hx hb hX hbl hbA hS (show ¬ (_ ∨ _) by decide) dL_law_1439 ?_
      refine p_topI (v := 2) cC ?_
      refine lv_aload_n hx hb dL_law_1440 rfl (lv_at hl 4 rfl) ?_
      refine lv_iload hx hb dL_law_1441 (lv_at hl 0 rfl) ?_
      refine lv_iconst (v := 2) hx hb dL_law_1443 (by decide) ?_
      refine lv_iadd hx hb dL_law_1444 ?_
      refine p_topI (v := 2) (by decide) ?_
      refine va_sld hx hb hX hbl hbA hS (show ¬ (_ ∨ _) by decide) dL_law_1445 ?_
      refine p_topI (v := 0) cx93 ?_
      refine lv_if_eq (tgt := 1453) hx hb dL_law_1446 (by decide) (fun cx98 => ?_) (fun h9 => absurd (by decide) h9)
      refine lv_iconst (v := 0) hx hb dL_law_1453 (by decide) ?_
      refine p_ji (wr := [((qa 37), .inr (8, [.ref (qa 38), .ref (qa 39), .ref (qa 40), .ref (qa 41), .ref (qa 42), .ref (qa 43), .ref (qa 44), .int 0, .int (-1), .int 0, .int 0])), ((qa 38), .inl (k 1, 6, .inl (gs 3))), ((qa 39), .inl (k 1, 6, .inl (fun _ => 0))), ((qa 40), .inl (k 1, 6, .inl (fun _ => 0))), ((qa 41), .inl (k 1, 6, .inl (fun _ => 0))), ((qa 42), .inl (k 1, 10, .inl (fun _ => 0))), ((qa 43), .inl (k 1, 10, .inl (fun _ => 0))), ((qa 44), .inl (k 1, 10, .inl (fun _ => 0))), ((qa 45), .inr (8, [.ref (qa 46), .ref (qa 47), .ref (qa 48), .ref (qa 49), .ref (qa 50), .ref (qa 51), .ref (qa 52), .int 0, .int (-1), .int 0, .int 0])), ((qa 46), .inl (k 1, 6, .inl (gs 4))), ((qa 47), .inl (k 1, 6, .inl (fun _ => 0))), ((qa 48), .inl (k 1, 6, .inl (fun _ => 0))), ((qa 49), .inl (k 1, 6, .inl (fun _ => 0))), ((qa 50), .inl (k 1, 10, .inl (fun _ => 0))), ((qa 51), .inl (k 1, 10, .inl (fun _ => 0))), ((qa 52), .inl (k 1, 10, .inl (fun _ => 0))), ((qa 61), .inr (8, [.ref (qa 62), .ref (qa 63), .ref (qa 64), .ref (qa 65), .ref (qa 66), .ref (qa 67), .ref (qa 68), .int 0, .int (-1), .int 0, .int 0])), ((qa 62), .inl (k 1, 6, .inl (gs 6))), ((qa 63), .inl (k 1, 6, .inl (fun _ => 0))), ((qa 64), .inl (k 1, 6, .inl (fun _ => 0))), ((qa 65), .inl (k 1, 6, .inl (fun _ => 0))), ((qa 66), .inl (k 1, 10, .inl (fun _ => 0))), ((qa 67), .inl (k 1, 10, .inl (fun _ => 0))), ((qa 68), .inl (k 1, 10, .inl (fun _ => 0)))]) (va_runV (As := [.int 2, .int 0]) (rest := [.int 1]) ⟨hx, hb, hml, hown, hts⟩ (c_m_mark_2_0 l D k _ ma mg) (cwV 2 hts lg_109 rfl rfl rfl (by decide +kernel) ⟨Nat.le_of_ble_eq_true rfl, Nat.le_of_ble_eq_true rfl⟩) (pV hK hN hP hD [24, 26, 25] rfl (by decide) rfl 24 rfl rfl) rfl rfl hl.1 rfl (lv_room (Nat.le_of_ble_eq_true rfl)) dL_law_1454 ⟨by decide, by decide⟩) hP hD hS hA [24, 26, 25] [0, 1, 2, 3, 4, 5, 6, 7, 8, 9, 10, 11, 12, 13, 14, 15, 16, 17, 18, 19, 20, 21, 22, 23] rfl rfl (by decide) (by decide) (fun rx101 ux99 H locs wx100 hP hD hS => ?_)
      have hx102 : rx101 = 1 := wx100
      subst hx102
      have hP : va_P D vwCl [((qa 37), .inr (8, [.ref (qa 38), .ref (qa 39), .ref (qa 40), .ref (qa 41), .ref (qa 42), .ref (qa 43), .ref (qa 44), .int 0, .int (-1), .int 0, .int 0])), ((qa 38), .inl (k 1, 6, .inl (gs 3))), ((qa 39), .inl (k 1, 6, .inl (fun _ => 0))), ((qa 40), .inl (k 1, 6, .inl (fun _ => 0))), ((qa 41), .inl (k 1, 6, .inl (fun _ => 0))), ((qa 42), .inl (k 1, 10, .inl (fun _ => 0))), ((qa 43), .inl (k 1, 10, .inl (fun _ => 0))), ((qa 44), .inl (k 1, 10, .inl (fun _ => 0))), ((qa 45), .inr (8, [.ref (qa 46), .ref (qa 47), .ref (qa 48), .ref (qa 49), .ref (qa 50), .ref (qa 51), .ref (qa 52), .int 0, .int (-1), .int 0, .int 0])), ((qa 46), .inl (k 1, 6, .inl (gs 4))), ((qa 47), .inl (k 1, 6, .inl (fun _ => 0))), ((qa 48), .inl (k 1, 6, .inl (fun _ => 0))), ((qa 49), .inl (k 1, 6, .inl (fun _ => 0))), ((qa 50), .inl (k 1, 10, .inl (fun _ => 0))), ((qa 51), .inl (k 1, 10, .inl (fun _ => 0))), ((qa 52), .inl (k 1, 10, .inl (fun _ => 0))), ((qa 61), .inr (8, [.ref (qa 62), .ref (qa 63), .ref (qa 64), .ref (qa 65), .ref (qa 66), .ref (qa 67), .ref (qa 68), .int 0, .int (-1), .int 0, .int 0])), ((qa 62), .inl (k 1, 6, .inl (gs 6))), ((qa 63), .inl (k 1, 6, .inl (fun _ => 0))), ((qa 64), .inl (k 1, 6, .inl (fun _ => 0))), ((qa 65), .inl (k 1, 6, .inl (fun _ => 0))), ((qa 66), .inl (k 1, 10, .inl (fun _ => 0))), ((qa 67), .inl (k 1, 10, .inl (fun _ => 0))), ((qa 68), .inl (k 1, 10, .inl (fun _ => 0)))] H := hP
      have hD : va_D A [((qa 37), .inr (8, [.ref (qa 38), .ref (qa 39), .ref (qa 40), .ref (qa 41), .ref (qa 42), .ref (qa 43), .ref (qa 44), .int 0, .int (-1), .int 0, .int 0])), ((qa 38), .inl (k 1, 6, .inl (gs 3))), ((qa 39), .inl (k 1, 6, .inl (fun _ => 0))), ((qa 40), .inl (k 1, 6, .inl (fun _ => 0))), ((qa 41), .inl (k 1, 6, .inl (fun _ => 0))), ((qa 42), .inl (k 1, 10, .inl (fun _ => 0))), ((qa 43), .inl (k 1, 10, .inl (fun _ => 0))), ((qa 44), .inl (k 1, 10, .inl (fun _ => 0))), ((qa 45), .inr (8, [.ref (qa 46), .ref (qa 47), .ref (qa 48), .ref (qa 49), .ref (qa 50), .ref (qa 51), .ref (qa 52), .int 0, .int (-1), .int 0, .int 0])), ((qa 46), .inl (k 1, 6, .inl (gs 4))), ((qa 47), .inl (k 1, 6, .inl (fun _ => 0))), ((qa 48), .inl (k 1, 6, .inl (fun _ => 0))), ((qa 49), .inl (k 1, 6, .inl (fun _ => 0))), ((qa 50), .inl (k 1, 10, .inl (fun _ => 0))), ((qa 51), .inl (k 1, 10, .inl (fun _ => 0))), ((qa 52), .inl (k 1, 10, .inl (fun _ => 0))), ((qa 61), .inr (8, [.ref (qa 62), .ref (qa 63), .ref (qa 64), .ref (qa 65), .ref (qa 66), .ref (qa 67), .ref (qa 68), .int 0, .int (-1), .int 0, .int 0])), ((qa 62), .inl (k 1, 6, .inl (gs 6))), ((qa 63), .inl (k 1, 6, .inl (fun _ => 0))), ((qa 64), .inl (k 1, 6, .inl (fun _ => 0))), ((qa 65), .inl (k 1, 6, .inl (fun _ => 0))), ((qa 66), .inl (k 1, 10, .inl (fun _ => 0))), ((qa 67), .inl (k 1, 10, .inl (fun _ => 0))), ((qa 68), .inl (k 1, 10, .inl (fun _ => 0)))] := hD
      refine lv_icmp_eq (tgt := 1487) hx hb dL_law_1457 (by decide) (fun cx103 => ?_) (fun h9 => absurd (by decide) h9)
      refine lv_iinc (v := 7) (lv' := [(4, .int 7), (3, .ref out), (2, .ref (ma 0)), (1, .ref (qa 0)), (0, .ref b)]) hx hb dL_law_1487 hl (k := 0) rfl (by decide) (by decide) rfl (fun ls hl => ?_)
      refine lv_goto (tgt := 23) hx hb dL_law_1490 (by decide) ?_
      refine lv_iload hx hb dL_law_23 (lv_at hl 0 rfl) ?_
      refine lv_aload_n hx hb dL_law_25 rfl (lv_at hl 4 rfl) ?_
      refine va_slen hx hb hX hbl hbA hS dL_law_26 ?_
      refine p_topI (v := 7) (by decide) ?_
      refine lv_bipush (v := 7) hx hb dL_law_27 (by decide) ?_
      refine lv_isub hx hb dL_law_29 ?_
      refine p_topI (v := 0) (by decide) ?_
      refine lv_icmp_gt (tgt := 1493) hx hb dL_law_30 (by decide) (fun cx104 => ?_) (fun h9 => absurd (by decide) h9)
      refine lv_iconst (v := 1) hx hb dL_law_1493 (by decide) ?_
      refine va_forget (fun q hq => hAf _ (hS.2.2 q hq)) ?_
      refine W.widen (k := 600002) (n := 7302232) (by decide) (by decide) ?_
      exact lw_ret hx hb hr hlocks dL_law_1494
    · skip
      refine lv_iconst (v := 1) hx hb dL_law_1425 (by decide) ?_
      refine lv_goto (tgt := 1430) hx hb dL_law_1426 (by decide) ?_
      refine p_ji (wr := [((qa 9), .inr (8, [.ref (qa 10), .ref (qa 11), .ref (qa 12), .ref (qa 13), .ref (qa 14), .ref (qa 15), .ref (qa 16), .int 0, .int (-1), .int 0, .int 0])), ((qa 10), .inl (k 1, 6, .inl (gs 0))), ((qa 11), .inl (k 1, 6, .inl (fun _ => 0))), ((qa 12), .inl (k 1, 6, .inl (fun _ => 0))), ((qa 13), .inl (k 1, 6, .inl (fun _ => 0))), ((qa 14), .inl (k 1, 10, .inl (fun _ => 0))), ((qa 15), .inl (k 1, 10, .inl (fun _ => 0))), ((qa 16), .inl (k 1, 10, .inl (fun _ => 0))), ((qa 37), .inr (8, [.ref (qa 38), .ref (qa 39), .ref (qa 40), .ref (qa 41), .ref (qa 42), .ref (qa 43), .ref (qa 44), .int 0, .int (-1), .int 0, .int 0])), ((qa 38), .inl (k 1, 6, .inl (gs 3))), ((qa 39), .inl (k 1, 6, .inl (fun _ => 0))), ((qa 40), .inl (k 1, 6, .inl (fun _ => 0))), ((qa 41), .inl (k 1, 6, .inl (fun _ => 0))), ((qa 42), .inl (k 1, 10, .inl (fun _ => 0))), ((qa 43), .inl (k 1, 10, .inl (fun _ => 0))), ((qa 44), .inl (k 1, 10, .inl (fun _ => 0))), ((qa 45), .inr (8, [.ref (qa 46), .ref (qa 47), .ref (qa 48), .ref (qa 49), .ref (qa 50), .ref (qa 51), .ref (qa 52), .int 0, .int (-1), .int 0, .int 0])), ((qa 46), .inl (k 1, 6, .inl (gs 4))), ((qa 47), .inl (k 1, 6, .inl (fun _ => 0))), ((qa 48), .inl (k 1, 6, .inl (fun _ => 0))), ((qa 49), .inl (k 1, 6, .inl (fun _ => 0))), ((qa 50), .inl (k 1, 10, .inl (fun _ => 0))), ((qa 51), .inl (k 1, 10, .inl (fun _ => 0))), ((qa 52), .inl (k 1, 10, .inl (fun _ => 0))), ((qa 54), .inl (k 1, 6, .inl (gs 5))), ((qa 55), .inl (k 1, 6, .inl (fun _ => 0))), ((qa 56), .inl (k 1, 6, .inl (fun _ => 0))), ((qa 57), .inl (k 1, 6, .inl (fun _ => 0))), ((qa 58), .inl (k 1, 10, .inl (fun _ => 0))), ((qa 59), .inl (k 1, 10, .inl (fun _ => 0))), ((qa 60), .inl (k 1, 10, .inl (fun _ => 0))), ((qa 61), .inr (8, [.ref (qa 62), .ref (qa 63), .ref (qa 64), .ref (qa 65), .ref (qa 66), .ref (qa 67), .ref (qa 68), .int 0, .int (-1), .int 0, .int 0])), ((qa 62), .inl (k 1, 6, .inl (gs 6))), ((qa 63), .inl (k 1, 6, .inl (fun _ => 0))), ((qa 64), .inl (k 1, 6, .inl (fun _ => 0))), ((qa 65), .inl (k 1, 6, .inl (fun _ => 0))), ((qa 66), .inl (k 1, 10, .inl (fun _ => 0))), ((qa 67), .inl (k 1, 10, .inl (fun _ => 0))), ((qa 68), .inl (k 1, 10, .inl (fun _ => 0))), ((ma 0), .inr (10, [.int 0, .ref (ma 1), .int 0, .int 0, .ref (ma 4), .ref (ma 5), .ref (ma 6), .int 0, .int 0, .ref (ma 9), .ref (ma 10), .ref (ma 11), .ref (ma 12), .int 0, .ref (ma 14), .ref (ma 15), .int 0, .int 0, .ref (ma 18), .ref (ma 19), .ref (ma 20), .ref (ma 21), .ref (ma 22), .int 0, .ref (ma 24), .int 0, .ref (ma 26), .int 0, .int 0, .int 0, .int 0, .ref (ma 31), .ref (ma 32), .ref (ma 33), .ref (ma 34), .ref (ma 35), .int 0, .int 0, .ref (ma 38), .ref (ma 39), .ref (ma 40), .long 0])), ((ma 22), .inl (k 1, 1320, .inl (mg 22))), ((ma 24), .inl (k 3, 4, .inl (mg 24)))]) (va_runV (As := [.int 2, .int 1]) (rest := []) ⟨hx, hb, hml, hown, hts⟩ (c_mark_2_1 l D k _ qa) (cwV 2 hts lg_110 rfl rfl rfl (by decide +kernel) ⟨Nat.le_of_ble_eq_true rfl, Nat.le_of_ble_eq_true rfl⟩) (pV hK hN hP hD [0, 9, 26] rfl (by decide) rfl 0 rfl rfl) rfl rfl hl.1 rfl (lv_room (Nat.le_of_ble_eq_true rfl)) dL_law_1430 ⟨by decide, by decide⟩) hP hD hS hA [0, 9, 26] [1, 2, 3, 4, 5, 6, 7, 8, 10, 11, 12, 13, 14, 15, 16, 17, 18, 19, 20, 21, 22, 23, 24, 25, 27, 28, 29, 30, 31, 32, 33, 34, 35, 36, 37, 38, 39, 40, 41, 42, 43, 44] rfl rfl (by decide) (by decide) (fun rx107 ux105 H locs wx106 hP hD hS => ?_)
      have hx108 : rx107 = 0 := wx106
      subst hx108
      have hP : va_P D vwCl [((qa 9), .inr (8, [.ref (qa 10), .ref (qa 11), .ref (qa 12), .ref (qa 13), .ref (qa 14), .ref (qa 15), .ref (qa 16), .int 0, .int (-1), .int 0, .int 0])), ((qa 10), .inl (k 1, 6, .inl (gs 0))), ((qa 11), .inl (k 1, 6, .inl (fun _ => 0))), ((qa 12), .inl (k 1, 6, .inl (fun _ => 0))), ((qa 13), .inl (k 1, 6, .inl (fun _ => 0))), ((qa 14), .inl (k 1, 10, .inl (fun _ => 0))), ((qa 15), .inl (k 1, 10, .inl (fun _ => 0))), ((qa 16), .inl (k 1, 10, .inl (fun _ => 0))), ((qa 37), .inr (8, [.ref (qa 38), .ref (qa 39), .ref (qa 40), .ref (qa 41), .ref (qa 42), .ref (qa 43), .ref (qa 44), .int 0, .int (-1), .int 0, .int 0])), ((qa 38), .inl (k 1, 6, .inl (gs 3))), ((qa 39), .inl (k 1, 6, .inl (fun _ => 0))), ((qa 40), .inl (k 1, 6, .inl (fun _ => 0))), ((qa 41), .inl (k 1, 6, .inl (fun _ => 0))), ((qa 42), .inl (k 1, 10, .inl (fun _ => 0))), ((qa 43), .inl (k 1, 10, .inl (fun _ => 0))), ((qa 44), .inl (k 1, 10, .inl (fun _ => 0))), ((qa 45), .inr (8, [.ref (qa 46), .ref (qa 47), .ref (qa 48), .ref (qa 49), .ref (qa 50), .ref (qa 51), .ref (qa 52), .int 0, .int (-1), .int 0, .int 0])), ((qa 46), .inl (k 1, 6, .inl (gs 4))), ((qa 47), .inl (k 1, 6, .inl (fun _ => 0))), ((qa 48), .inl (k 1, 6, .inl (fun _ => 0))), ((qa 49), .inl (k 1, 6, .inl (fun _ => 0))), ((qa 50), .inl (k 1, 10, .inl (fun _ => 0))), ((qa 51), .inl (k 1, 10, .inl (fun _ => 0))), ((qa 52), .inl (k 1, 10, .inl (fun _ => 0))), ((qa 54), .inl (k 1, 6, .inl (gs 5))), ((qa 55), .inl (k 1, 6, .inl (fun _ => 0))), ((qa 56), .inl (k 1, 6, .inl (fun _ => 0))), ((qa 57), .inl (k 1, 6, .inl (fun _ => 0))), ((qa 58), .inl (k 1, 10, .inl (fun _ => 0))), ((qa 59), .inl (k 1, 10, .inl (fun _ => 0))), ((qa 60), .inl (k 1, 10, .inl (fun _ => 0))), ((qa 61), .inr (8, [.ref (qa 62), .ref (qa 63), .ref (qa 64), .ref (qa 65), .ref (qa 66), .ref (qa 67), .ref (qa 68), .int 0, .int (-1), .int 0, .int 0])), ((qa 62), .inl (k 1, 6, .inl (gs 6))), ((qa 63), .inl (k 1, 6, .inl (fun _ => 0))), ((qa 64), .inl (k 1, 6, .inl (fun _ => 0))), ((qa 65), .inl (k 1, 6, .inl (fun _ => 0))), ((qa 66), .inl (k 1, 10, .inl (fun _ => 0))), ((qa 67), .inl (k 1, 10, .inl (fun _ => 0))), ((qa 68), .inl (k 1, 10, .inl (fun _ => 0))), ((ma 0), .inr (10, [.int 0, .ref (ma 1), .int 0, .int 0, .ref (ma 4), .ref (ma 5), .ref (ma 6), .int 0, .int 0, .ref (ma 9), .ref (ma 10), .ref (ma 11), .ref (ma 12), .int 0, .ref (ma 14), .ref (ma 15), .int 0, .int 0, .ref (ma 18), .ref (ma 19), .ref (ma 20), .ref (ma 21), .ref (ma 22), .int 0, .ref (ma 24), .int 0, .ref (ma 26), .int 0, .int 0, .int 0, .int 0, .ref (ma 31), .ref (ma 32), .ref (ma 33), .ref (ma 34), .ref (ma 35), .int 0, .int 0, .ref (ma 38), .ref (ma 39), .ref (ma 40), .long 0])), ((ma 22), .inl (k 1, 1320, .inl (mg 22))), ((ma 24), .inl (k 3, 4, .inl (mg 24)))] H := hP
      have hD : va_D A [((qa 9), .inr (8, [.ref (qa 10), .ref (qa 11), .ref (qa 12), .ref (qa 13), .ref (qa 14), .ref (qa 15), .ref (qa 16), .int 0, .int (-1), .int 0, .int 0])), ((qa 10), .inl (k 1, 6, .inl (gs 0))), ((qa 11), .inl (k 1, 6, .inl (fun _ => 0))), ((qa 12), .inl (k 1, 6, .inl (fun _ => 0))), ((qa 13), .inl (k 1, 6, .inl (fun _ => 0))), ((qa 14), .inl (k 1, 10, .inl (fun _ => 0))), ((qa 15), .inl (k 1, 10, .inl (fun _ => 0))), ((qa 16), .inl (k 1, 10, .inl (fun _ => 0))), ((qa 37), .inr (8, [.ref (qa 38), .ref (qa 39), .ref (qa 40), .ref (qa 41), .ref (qa 42), .ref (qa 43), .ref (qa 44), .int 0, .int (-1), .int 0, .int 0])), ((qa 38), .inl (k 1, 6, .inl (gs 3))), ((qa 39), .inl (k 1, 6, .inl (fun _ => 0))), ((qa 40), .inl (k 1, 6, .inl (fun _ => 0))), ((qa 41), .inl (k 1, 6, .inl (fun _ => 0))), ((qa 42), .inl (k 1, 10, .inl (fun _ => 0))), ((qa 43), .inl (k 1, 10, .inl (fun _ => 0))), ((qa 44), .inl (k 1, 10, .inl (fun _ => 0))), ((qa 45), .inr (8, [.ref (qa 46), .ref (qa 47), .ref (qa 48), .ref (qa 49), .ref (qa 50), .ref (qa 51), .ref (qa 52), .int 0, .int (-1), .int 0, .int 0])), ((qa 46), .inl (k 1, 6, .inl (gs 4))), ((qa 47), .inl (k 1, 6, .inl (fun _ => 0))), ((qa 48), .inl (k 1, 6, .inl (fun _ => 0))), ((qa 49), .inl (k 1, 6, .inl (fun _ => 0))), ((qa 50), .inl (k 1, 10, .inl (fun _ => 0))), ((qa 51), .inl (k 1, 10, .inl (fun _ => 0))), ((qa 52), .inl (k 1, 10, .inl (fun _ => 0))), ((qa 54), .inl (k 1, 6, .inl (gs 5))), ((qa 55), .inl (k 1, 6, .inl (fun _ => 0))), ((qa 56), .inl (k 1, 6, .inl (fun _ => 0))), ((qa 57), .inl (k 1, 6, .inl (fun _ => 0))), ((qa 58), .inl (k 1, 10, .inl (fun _ => 0))), ((qa 59), .inl (k 1, 10, .inl (fun _ => 0))), ((qa 60), .inl (k 1, 10, .inl (fun _ => 0))), ((qa 61), .inr (8, [.ref (qa 62), .ref (qa 63), .ref (qa 64), .ref (qa 65), .ref (qa 66), .ref (qa 67), .ref (qa 68), .int 0, .int (-1), .int 0, .int 0])), ((qa 62), .inl (k 1, 6, .inl (gs 6))), ((qa 63), .inl (k 1, 6, .inl (fun _ => 0))), ((qa 64), .inl (k 1, 6, .inl (fun _ => 0))), ((qa 65), .inl (k 1, 6, .inl (fun _ => 0))), ((qa 66), .inl (k 1, 10, .inl (fun _ => 0))), ((qa 67), .inl (k 1, 10, .inl (fun _ => 0))), ((qa 68), .inl (k 1, 10, .inl (fun _ => 0))), ((ma 0), .inr (10, [.int 0, .ref (ma 1), .int 0, .int 0, .ref (ma 4), .ref (ma 5), .ref (ma 6), .int 0, .int 0, .ref (ma 9), .ref (ma 10), .ref (ma 11), .ref (ma 12), .int 0, .ref (ma 14), .ref (ma 15), .int 0, .int 0, .ref (ma 18), .ref (ma 19), .ref (ma 20), .ref (ma 21), .ref (ma 22), .int 0, .ref (ma 24), .int 0, .ref (ma 26), .int 0, .int 0, .int 0, .int 0, .ref (ma 31), .ref (ma 32), .ref (ma 33), .ref (ma 34), .ref (ma 35), .int 0, .int 0, .ref (ma 38), .ref (ma 39), .ref (ma 40), .long 0])), ((ma 22), .inl (k 1, 1320, .inl (mg 22))), ((ma 24), .inl (k 3, 4, .inl (mg 24)))] := hD
      refine lv_aload_n hx hb dL_law_1433 rfl (lv_at hl 2 rfl) ?_
      refine lv_aload_n hx hb dL_law_1434 rfl (lv_at hl 4 rfl) ?_
      refine lv_iload hx hb dL_law_1435 (lv_at hl 0 rfl) ?_
      refine lv_iconst (v := 1) hx hb dL_law_1437 (by decide) ?_
      refine lv_iadd hx hb dL_law_1438 ?_
      refine p_topI (v := 1) (by decide) ?_
      refine va_sld hx hb hX hbl hbA hS (show ¬ (_ ∨ _) by decide) dL_law_1439 ?_
      refine p_topI (v := 2) cC ?_
      refine lv_aload_n hx hb dL_law_1440 rfl (lv_at hl 4 rfl) ?_
      refine lv_iload hx hb dL_law_1441 (lv_at hl 0 rfl) ?_
      refine lv_iconst (v := 2) hx hb dL_law_1443 (by decide) ?_
      refine lv_iadd hx hb dL_law_1444 ?_
      refine p_topI (v := 2) (by decide) ?_
      refine va_sld hx hb hX hbl hbA hS (show ¬ (_ ∨ _) by decide) dL_law_1445 ?_
      refine p_topI (v := (xs 2)) rfl ?_
      refine lv_if_eq (tgt := 1453) hx hb dL_law_1446 (by decide) (fun h9 => absurd h9 cx93) (fun cx109 => ?_)
      refine lv_iconst (v := 1) hx hb dL_law_1449 (by decide) ?_
      refine lv_goto (tgt := 1454) hx hb dL_law_1450 (by decide) ?_
      refine p_ji (wr := [((qa 9), .inr (8, [.ref (qa 10), .ref (qa 11), .ref (qa 12), .ref (qa 13), .ref (qa 14), .ref (qa 15), .ref (qa 16), .int 0, .int (-1), .int 0, .int 0])), ((qa 10), .inl (k 1, 6, .inl (gs 0))), ((qa 11), .inl (k 1, 6, .inl (fun _ => 0))), ((qa 12), .inl (k 1, 6, .inl (fun _ => 0))), ((qa 13), .inl (k 1, 6, .inl (fun _ => 0))), ((qa 14), .inl (k 1, 10, .inl (fun _ => 0))), ((qa 15), .inl (k 1, 10, .inl (fun _ => 0))), ((qa 16), .inl (k 1, 10, .inl (fun _ => 0))), ((qa 37), .inr (8, [.ref (qa 38), .ref (qa 39), .ref (qa 40), .ref (qa 41), .ref (qa 42), .ref (qa 43), .ref (qa 44), .int 0, .int (-1), .int 0, .int 0])), ((qa 38), .inl (k 1, 6, .inl (gs 3))), ((qa 39), .inl (k 1, 6, .inl (fun _ => 0))), ((qa 40), .inl (k 1, 6, .inl (fun _ => 0))), ((qa 41), .inl (k 1, 6, .inl (fun _ => 0))), ((qa 42), .inl (k 1, 10, .inl (fun _ => 0))), ((qa 43), .inl (k 1, 10, .inl (fun _ => 0))), ((qa 44), .inl (k 1, 10, .inl (fun _ => 0))), ((qa 45), .inr (8, [.ref (qa 46), .ref (qa 47), .ref (qa 48), .ref (qa 49), .ref (qa 50), .ref (qa 51), .ref (qa 52), .int 0, .int (-1), .int 0, .int 0])), ((qa 46), .inl (k 1, 6, .inl (gs 4))), ((qa 47), .inl (k 1, 6, .inl (fun _ => 0))), ((qa 48), .inl (k 1, 6, .inl (fun _ => 0))), ((qa 49), .inl (k 1, 6, .inl (fun _ => 0))), ((qa 50), .inl (k 1, 10, .inl (fun _ => 0))), ((qa 51), .inl (k 1, 10, .inl (fun _ => 0))), ((qa 52), .inl (k 1, 10, .inl (fun _ => 0))), ((qa 54), .inl (k 1, 6, .inl (gs 5))), ((qa 55), .inl (k 1, 6, .inl (fun _ => 0))), ((qa 56), .inl (k 1, 6, .inl (fun _ => 0))), ((qa 57), .inl (k 1, 6, .inl (fun _ => 0))), ((qa 58), .inl (k 1, 10, .inl (fun _ => 0))), ((qa 59), .inl (k 1, 10, .inl (fun _ => 0))), ((qa 60), .inl (k 1, 10, .inl (fun _ => 0))), ((qa 61), .inr (8, [.ref (qa 62), .ref (qa 63), .ref (qa 64), .ref (qa 65), .ref (qa 66), .ref (qa 67), .ref (qa 68), .int 0, .int (-1), .int 0, .int 0])), ((qa 62), .inl (k 1, 6, .inl (gs 6))), ((qa 63), .inl (k 1, 6, .inl (fun _ => 0))), ((qa 64), .inl (k 1, 6, .inl (fun _ => 0))), ((qa 65), .inl (k 1, 6, .inl (fun _ => 0))), ((qa 66), .inl (k 1, 10, .inl (fun _ => 0))), ((qa 67), .inl (k 1, 10, .inl (fun _ => 0))), ((qa 68), .inl (k 1, 10, .inl (fun _ => 0))), ((ma 22), .inl (k 1, 1320, .inl (mg 22)))]) (va_runV (As := [.int 2, .int 1]) (rest := [.int 0]) ⟨hx, hb, hml, hown, hts⟩ (c_m_mark_2_1 l D k _ ma mg hm2) (cwV 2 hts lg_111 rfl rfl rfl (by decide +kernel) ⟨Nat.le_of_ble_eq_true rfl, Nat.le_of_ble_eq_true rfl⟩) (pV hK hN hP hD [39, 41] rfl (by decide) rfl 39 rfl rfl) rfl rfl hl.1 rfl (lv_room (Nat.le_of_ble_eq_true rfl)) dL_law_1454 ⟨by decide, by decide⟩) hP hD hS hA [39, 41] [0, 1, 2, 3, 4, 5, 6, 7, 8, 9, 10, 11, 12, 13, 14, 15, 16, 17, 18, 19, 20, 21, 22, 23, 24, 25, 26, 27, 28, 29, 30, 31, 32, 33, 34, 35, 36, 37, 38, 40] rfl rfl (by decide) (by decide) (fun rx112 ux110 H locs wx111 hP hD hS => ?_)
      have hx113 : rx112 = 0 := wx111
      subst hx113
      have hP : va_P D vwCl [((qa 9), .inr (8, [.ref (qa 10), .ref (qa 11), .ref (qa 12), .ref (qa 13), .ref (qa 14), .ref (qa 15), .ref (qa 16), .int 0, .int (-1), .int 0, .int 0])), ((qa 10), .inl (k 1, 6, .inl (gs 0))), ((qa 11), .inl (k 1, 6, .inl (fun _ => 0))), ((qa 12), .inl (k 1, 6, .inl (fun _ => 0))), ((qa 13), .inl (k 1, 6, .inl (fun _ => 0))), ((qa 14), .inl (k 1, 10, .inl (fun _ => 0))), ((qa 15), .inl (k 1, 10, .inl (fun _ => 0))), ((qa 16), .inl (k 1, 10, .inl (fun _ => 0))), ((qa 37), .inr (8, [.ref (qa 38), .ref (qa 39), .ref (qa 40), .ref (qa 41), .ref (qa 42), .ref (qa 43), .ref (qa 44), .int 0, .int (-1), .int 0, .int 0])), ((qa 38), .inl (k 1, 6, .inl (gs 3))), ((qa 39), .inl (k 1, 6, .inl (fun _ => 0))), ((qa 40), .inl (k 1, 6, .inl (fun _ => 0))), ((qa 41), .inl (k 1, 6, .inl (fun _ => 0))), ((qa 42), .inl (k 1, 10, .inl (fun _ => 0))), ((qa 43), .inl (k 1, 10, .inl (fun _ => 0))), ((qa 44), .inl (k 1, 10, .inl (fun _ => 0))), ((qa 45), .inr (8, [.ref (qa 46), .ref (qa 47), .ref (qa 48), .ref (qa 49), .ref (qa 50), .ref (qa 51), .ref (qa 52), .int 0, .int (-1), .int 0, .int 0])), ((qa 46), .inl (k 1, 6, .inl (gs 4))), ((qa 47), .inl (k 1, 6, .inl (fun _ => 0))), ((qa 48), .inl (k 1, 6, .inl (fun _ => 0))), ((qa 49), .inl (k 1, 6, .inl (fun _ => 0))), ((qa 50), .inl (k 1, 10, .inl (fun _ => 0))), ((qa 51), .inl (k 1, 10, .inl (fun _ => 0))), ((qa 52), .inl (k 1, 10, .inl (fun _ => 0))), ((qa 54), .inl (k 1, 6, .inl (gs 5))), ((qa 55), .inl (k 1, 6, .inl (fun _ => 0))), ((qa 56), .inl (k 1, 6, .inl (fun _ => 0))), ((qa 57), .inl (k 1, 6, .inl (fun _ => 0))), ((qa 58), .inl (k 1, 10, .inl (fun _ => 0))), ((qa 59), .inl (k 1, 10, .inl (fun _ => 0))), ((qa 60), .inl (k 1, 10, .inl (fun _ => 0))), ((qa 61), .inr (8, [.ref (qa 62), .ref (qa 63), .ref (qa 64), .ref (qa 65), .ref (qa 66), .ref (qa 67), .ref (qa 68), .int 0, .int (-1), .int 0, .int 0])), ((qa 62), .inl (k 1, 6, .inl (gs 6))), ((qa 63), .inl (k 1, 6, .inl (fun _ => 0))), ((qa 64), .inl (k 1, 6, .inl (fun _ => 0))), ((qa 65), .inl (k 1, 6, .inl (fun _ => 0))), ((qa 66), .inl (k 1, 10, .inl (fun _ => 0))), ((qa 67), .inl (k 1, 10, .inl (fun _ => 0))), ((qa 68), .inl (k 1, 10, .inl (fun _ => 0))), ((ma 22), .inl (k 1, 1320, .inl (mg 22)))] H := hP
      have hD : va_D A [((qa 9), .inr (8, [.ref (qa 10), .ref (qa 11), .ref (qa 12), .ref (qa 13), .ref (qa 14), .ref (qa 15), .ref (qa 16), .int 0, .int (-1), .int 0, .int 0])), ((qa 10), .inl (k 1, 6, .inl (gs 0))), ((qa 11), .inl (k 1, 6, .inl (fun _ => 0))), ((qa 12), .inl (k 1, 6, .inl (fun _ => 0))), ((qa 13), .inl (k 1, 6, .inl (fun _ => 0))), ((qa 14), .inl (k 1, 10, .inl (fun _ => 0))), ((qa 15), .inl (k 1, 10, .inl (fun _ => 0))), ((qa 16), .inl (k 1, 10, .inl (fun _ => 0))), ((qa 37), .inr (8, [.ref (qa 38), .ref (qa 39), .ref (qa 40), .ref (qa 41), .ref (qa 42), .ref (qa 43), .ref (qa 44), .int 0, .int (-1), .int 0, .int 0])), ((qa 38), .inl (k 1, 6, .inl (gs 3))), ((qa 39), .inl (k 1, 6, .inl (fun _ => 0))), ((qa 40), .inl (k 1, 6, .inl (fun _ => 0))), ((qa 41), .inl (k 1, 6, .inl (fun _ => 0))), ((qa 42), .inl (k 1, 10, .inl (fun _ => 0))), ((qa 43), .inl (k 1, 10, .inl (fun _ => 0))), ((qa 44), .inl (k 1, 10, .inl (fun _ => 0))), ((qa 45), .inr (8, [.ref (qa 46), .ref (qa 47), .ref (qa 48), .ref (qa 49), .ref (qa 50), .ref (qa 51), .ref (qa 52), .int 0, .int (-1), .int 0, .int 0])), ((qa 46), .inl (k 1, 6, .inl (gs 4))), ((qa 47), .inl (k 1, 6, .inl (fun _ => 0))), ((qa 48), .inl (k 1, 6, .inl (fun _ => 0))), ((qa 49), .inl (k 1, 6, .inl (fun _ => 0))), ((qa 50), .inl (k 1, 10, .inl (fun _ => 0))), ((qa 51), .inl (k 1, 10, .inl (fun _ => 0))), ((qa 52), .inl (k 1, 10, .inl (fun _ => 0))), ((qa 54), .inl (k 1, 6, .inl (gs 5))), ((qa 55), .inl (k 1, 6, .inl (fun _ => 0))), ((qa 56), .inl (k 1, 6, .inl (fun _ => 0))), ((qa 57), .inl (k 1, 6, .inl (fun _ => 0))), ((qa 58), .inl (k 1, 10, .inl (fun _ => 0))), ((qa 59), .inl (k 1, 10, .inl (fun _ => 0))), ((qa 60), .inl (k 1, 10, .inl (fun _ => 0))), ((qa 61), .inr (8, [.ref (qa 62), .ref (qa 63), .ref (qa 64), .ref (qa 65), .ref (qa 66), .ref (qa 67), .ref (qa 68), .int 0, .int (-1), .int 0, .int 0])), ((qa 62), .inl (k 1, 6, .inl (gs 6))), ((qa 63), .inl (k 1, 6, .inl (fun _ => 0))), ((qa 64), .inl (k 1, 6, .inl (fun _ => 0))), ((qa 65), .inl (k 1, 6, .inl (fun _ => 0))), ((qa 66), .inl (k 1, 10, .inl (fun _ => 0))), ((qa 67), .inl (k 1, 10, .inl (fun _ => 0))), ((qa 68), .inl (k 1, 10, .inl (fun _ => 0))), ((ma 22), .inl (k 1, 1320, .inl (mg 22)))] := hD
      refine lv_icmp_eq (tgt := 1487) hx hb dL_law_1457 (by decide) (fun cx114 => ?_) (fun h9 => absurd (by decide) h9)
      refine lv_iinc (v := 7) (lv' := [(4, .int 7), (3, .ref out), (2, .ref (ma 0)), (1, .ref (qa 0)), (0, .ref b)]) hx hb dL_law_1487 hl (k := 0) rfl (by decide) (by decide) rfl (fun ls hl => ?_)
      refine lv_goto (tgt := 23) hx hb dL_law_1490 (by decide) ?_
      refine lv_iload hx hb dL_law_23 (lv_at hl 0 rfl) ?_
      refine lv_aload_n hx hb dL_law_25 rfl (lv_at hl 4 rfl) ?_
      refine va_slen hx hb hX hbl hbA hS dL_law_26 ?_
      refine p_topI (v := 7) (by decide) ?_
      refine lv_bipush (v := 7) hx hb dL_law_27 (by decide) ?_
      refine lv_isub hx hb dL_law_29 ?_
      refine p_topI (v := 0) (by decide) ?_
      refine lv_icmp_gt (tgt := 1493) hx hb dL_law_30 (by decide) (fun cx115 => ?_) (fun h9 => absurd (by decide) h9)
      refine lv_iconst (v := 1) hx hb dL_law_1493 (by decide) ?_
      refine va_forget (fun q hq => hAf _ (hS.2.2 q hq)) ?_
      refine W.widen (k := 600002) (n := 7302232) (by decide) (by decide) ?_
      exact lw_ret hx hb hr hlocks dL_law_1494
  · skip
    refine lv_aload_n hx hb dL_law_1409 rfl (lv_at hl 3 rfl) ?_
    refine lv_aload_n hx hb dL_law_1410 rfl (lv_at hl 4 rfl) ?_
    refine lv_iload hx hb dL_law_1411 (lv_at hl 0 rfl) ?_
    refine lv_iconst (v := 1) hx hb dL_law_1413 (by decide) ?_
    refine lv_iadd hx hb dL_law_1414 ?_
    refine p_topI (v := 1) (by decide) ?_
    refine va_sld hx hb hX hbl hbA hS (show ¬ (_ ∨ _) by decide) dL_law_1415 ?_
    refine p_topI (v := 3) cC ?_
    refine lv_aload_n hx hb dL_law_1416 rfl (lv_at hl 4 rfl) ?_
    refine lv_iload hx hb dL_law_1417 (lv_at hl 0 rfl) ?_
    refine lv_iconst (v := 2) hx hb dL_law_1419 (by decide) ?_
    refine lv_iadd hx hb dL_law_1420 ?_
    refine p_topI (v := 2) (by decide) ?_
    refine va_sld hx hb hX hbl hbA hS (show ¬ (_ ∨ _) by decide) dL_law_1421 ?_
    refine p_topI (v := (xs 2)) rfl ?_
    refine lv_if_eq (tgt := 1429) hx hb dL_law_1422 (by decide) (fun cx116 => ?_) (fun cx116 => ?_)
    · skip
      refine lv_iconst (v := 0) hx hb dL_law_1429 (by decide) ?_
      refine p_ji (wr := [((qa 37), .inr (8, [.ref (qa 38), .ref (qa 39), .ref (qa 40), .ref (qa 41), .ref (qa 42), .ref (qa 43), .ref (qa 44), .int 0, .int (-1), .int 0, .int 0])), ((qa 38), .inl (k 1, 6, .inl (gs 3))), ((qa 39), .inl (k 1, 6, .inl (fun _ => 0))), ((qa 40), .inl (k 1, 6, .inl (fun _ => 0))), ((qa 41), .inl (k 1, 6, .inl (fun _ => 0))), ((qa 42), .inl (k 1, 10, .inl (fun _ => 0))), ((qa 43), .inl (k 1, 10, .inl (fun _ => 0))), ((qa 44), .inl (k 1, 10, .inl (fun _ => 0))), ((qa 45), .inr (8, [.ref (qa 46), .ref (qa 47), .ref (qa 48), .ref (qa 49), .ref (qa 50), .ref (qa 51), .ref (qa 52), .int 0, .int (-1), .int 0, .int 0])), ((qa 46), .inl (k 1, 6, .inl (gs 4))), ((qa 47), .inl (k 1, 6, .inl (fun _ => 0))), ((qa 48), .inl (k 1, 6, .inl (fun _ => 0))), ((qa 49), .inl (k 1, 6, .inl (fun _ => 0))), ((qa 50), .inl (k 1, 10, .inl (fun _ => 0))), ((qa 51), .inl (k 1, 10, .inl (fun _ => 0))), ((qa 52), .inl (k 1, 10, .inl (fun _ => 0))), ((qa 53), .inr (8, [.ref (qa 54), .ref (qa 55), .ref (qa 56), .ref (qa 57), .ref (qa 58), .ref (qa 59), .ref (qa 60), .int 0, .int (-1), .int 0, .int 0])), ((qa 54), .inl (k 1, 6, .inl (gs 5))), ((qa 55), .inl (k 1, 6, .inl (fun _ => 0))), ((qa 56), .inl (k 1, 6, .inl (fun _ => 0))), ((qa 57), .inl (k 1, 6, .inl (fun _ => 0))), ((qa 58), .inl (k 1, 10, .inl (fun _ => 0))), ((qa 59), .inl (k 1, 10, .inl (fun _ => 0))), ((qa 60), .inl (k 1, 10, .inl (fun _ => 0))), ((ma 0), .inr (10, [.int 0, .ref (ma 1), .int 0, .int 0, .ref (ma 4), .ref (ma 5), .ref (ma 6), .int 0, .int 0, .ref (ma 9), .ref (ma 10), .ref (ma 11), .ref (ma 12), .int 0, .ref (ma 14), .ref (ma 15), .int 0, .int 0, .ref (ma 18), .ref (ma 19), .ref (ma 20), .ref (ma 21), .ref (ma 22), .int 0, .ref (ma 24), .int 0, .ref (ma 26), .int 0, .int 0, .int 0, .int 0, .ref (ma 31), .ref (ma 32), .ref (ma 33), .ref (ma 34), .ref (ma 35), .int 0, .int 0, .ref (ma 38), .ref (ma 39), .ref (ma 40), .long 0])), ((ma 22), .inl (k 1, 1320, .inl (mg 22))), ((ma 24), .inl (k 3, 4, .inl (mg 24)))]) (va_runV (As := [.int 3, .int 0]) (rest := []) ⟨hx, hb, hml, hown, hts⟩ (c_mark_3_0 l D k _ qa (gs 6) (gs 0)) (cwV 2 hts lg_112 rfl rfl rfl (by decide +kernel) ⟨Nat.le_of_ble_eq_true rfl, Nat.le_of_ble_eq_true rfl⟩) (pV hK hN hP hD [0, 9, 34, 35, 36, 37, 38, 39, 40, 41, 1, 2, 3, 4, 5, 6, 7, 8] rfl (by decide) rfl 0 rfl rfl) rfl rfl hl.1 rfl (lv_room (Nat.le_of_ble_eq_true rfl)) dL_law_1430 ⟨by decide, by decide⟩) hP hD hS hA [0, 9, 34, 35, 36, 37, 38, 39, 40, 41, 1, 2, 3, 4, 5, 6, 7, 8] [10, 11, 12, 13, 14, 15, 16, 17, 18, 19, 20, 21, 22, 23, 24, 25, 26, 27, 28, 29, 30, 31, 32, 33, 42, 43, 44] rfl rfl (by decide) (by decide) (fun rx119 ux117 H locs wx118 hP hD hS => ?_)
      have hx120 : rx119 = 1 := wx118
      subst hx120
      have hP : va_P D vwCl [((qa 37), .inr (8, [.ref (qa 38), .ref (qa 39), .ref (qa 40), .ref (qa 41), .ref (qa 42), .ref (qa 43), .ref (qa 44), .int 0, .int (-1), .int 0, .int 0])), ((qa 38), .inl (k 1, 6, .inl (gs 3))), ((qa 39), .inl (k 1, 6, .inl (fun _ => 0))), ((qa 40), .inl (k 1, 6, .inl (fun _ => 0))), ((qa 41), .inl (k 1, 6, .inl (fun _ => 0))), ((qa 42), .inl (k 1, 10, .inl (fun _ => 0))), ((qa 43), .inl (k 1, 10, .inl (fun _ => 0))), ((qa 44), .inl (k 1, 10, .inl (fun _ => 0))), ((qa 45), .inr (8, [.ref (qa 46), .ref (qa 47), .ref (qa 48), .ref (qa 49), .ref (qa 50), .ref (qa 51), .ref (qa 52), .int 0, .int (-1), .int 0, .int 0])), ((qa 46), .inl (k 1, 6, .inl (gs 4))), ((qa 47), .inl (k 1, 6, .inl (fun _ => 0))), ((qa 48), .inl (k 1, 6, .inl (fun _ => 0))), ((qa 49), .inl (k 1, 6, .inl (fun _ => 0))), ((qa 50), .inl (k 1, 10, .inl (fun _ => 0))), ((qa 51), .inl (k 1, 10, .inl (fun _ => 0))), ((qa 52), .inl (k 1, 10, .inl (fun _ => 0))), ((qa 53), .inr (8, [.ref (qa 54), .ref (qa 55), .ref (qa 56), .ref (qa 57), .ref (qa 58), .ref (qa 59), .ref (qa 60), .int 0, .int (-1), .int 0, .int 0])), ((qa 54), .inl (k 1, 6, .inl (gs 5))), ((qa 55), .inl (k 1, 6, .inl (fun _ => 0))), ((qa 56), .inl (k 1, 6, .inl (fun _ => 0))), ((qa 57), .inl (k 1, 6, .inl (fun _ => 0))), ((qa 58), .inl (k 1, 10, .inl (fun _ => 0))), ((qa 59), .inl (k 1, 10, .inl (fun _ => 0))), ((qa 60), .inl (k 1, 10, .inl (fun _ => 0))), ((ma 0), .inr (10, [.int 0, .ref (ma 1), .int 0, .int 0, .ref (ma 4), .ref (ma 5), .ref (ma 6), .int 0, .int 0, .ref (ma 9), .ref (ma 10), .ref (ma 11), .ref (ma 12), .int 0, .ref (ma 14), .ref (ma 15), .int 0, .int 0, .ref (ma 18), .ref (ma 19), .ref (ma 20), .ref (ma 21), .ref (ma 22), .int 0, .ref (ma 24), .int 0, .ref (ma 26), .int 0, .int 0, .int 0, .int 0, .ref (ma 31), .ref (ma 32), .ref (ma 33), .ref (ma 34), .ref (ma 35), .int 0, .int 0, .ref (ma 38), .ref (ma 39), .ref (ma 40), .long 0])), ((ma 22), .inl (k 1, 1320, .inl (mg 22))), ((ma 24), .inl (k 3, 4, .inl (mg 24)))] H := hP
      have hD : va_D A [((qa 37), .inr (8, [.ref (qa 38), .ref (qa 39), .ref (qa 40), .ref (qa 41), .ref (qa 42), .ref (qa 43), .ref (qa 44), .int 0, .int (-1), .int 0, .int 0])), ((qa 38), .inl (k 1, 6, .inl (gs 3))), ((qa 39), .inl (k 1, 6, .inl (fun _ => 0))), ((qa 40), .inl (k 1, 6, .inl (fun _ => 0))), ((qa 41), .inl (k 1, 6, .inl (fun _ => 0))), ((qa 42), .inl (k 1, 10, .inl (fun _ => 0))), ((qa 43), .inl (k 1, 10, .inl (fun _ => 0))), ((qa 44), .inl (k 1, 10, .inl (fun _ => 0))), ((qa 45), .inr (8, [.ref (qa 46), .ref (qa 47), .ref (qa 48), .ref (qa 49), .ref (qa 50), .ref (qa 51), .ref (qa 52), .int 0, .int (-1), .int 0, .int 0])), ((qa 46), .inl (k 1, 6, .inl (gs 4))), ((qa 47), .inl (k 1, 6, .inl (fun _ => 0))), ((qa 48), .inl (k 1, 6, .inl (fun _ => 0))), ((qa 49), .inl (k 1, 6, .inl (fun _ => 0))), ((qa 50), .inl (k 1, 10, .inl (fun _ => 0))), ((qa 51), .inl (k 1, 10, .inl (fun _ => 0))), ((qa 52), .inl (k 1, 10, .inl (fun _ => 0))), ((qa 53), .inr (8, [.ref (qa 54), .ref (qa 55), .ref (qa 56), .ref (qa 57), .ref (qa 58), .ref (qa 59), .ref (qa 60), .int 0, .int (-1), .int 0, .int 0])), ((qa 54), .inl (k 1, 6, .inl (gs 5))), ((qa 55), .inl (k 1, 6, .inl (fun _ => 0))), ((qa 56), .inl (k 1, 6, .inl (fun _ => 0))), ((qa 57), .inl (k 1, 6, .inl (fun _ => 0))), ((qa 58), .inl (k 1, 10, .inl (fun _ => 0))), ((qa 59), .inl (k 1, 10, .inl (fun _ => 0))), ((qa 60), .inl (k 1, 10, .inl (fun _ => 0))), ((ma 0), .inr (10, [.int 0, .ref (ma 1), .int 0, .int 0, .ref (ma 4), .ref (ma 5), .ref (ma 6), .int 0, .int 0, .ref (ma 9), .ref (ma 10), .ref (ma 11), .ref (ma 12), .int 0, .ref (ma 14), .ref (ma 15), .int 0, .int 0, .ref (ma 18), .ref (ma 19), .ref (ma 20), .ref (ma 21), .ref (ma 22), .int 0, .ref (ma 24), .int 0, .ref (ma 26), .int 0, .int 0, .int 0, .int 0, .ref (ma 31), .ref (ma 32), .ref (ma 33), .ref (ma 34), .ref (ma 35), .int 0, .int 0, .ref (ma 38), .ref (ma 39), .ref (ma 40), .long 0])), ((ma 22), .inl (k 1, 1320, .inl (mg 22))), ((ma 24), .inl (k 3, 4, .inl (mg 24)))] := hD
      refine lv_aload_n hx hb dL_law_1433 rfl (lv_at hl 2 rfl) ?_
      refine lv_aload_n hx hb dL_law_1434 rfl (lv_at hl 4 rfl) ?_
      refine lv_iload hx hb dL_law_1435 (lv_at hl 0 rfl) ?_
      refine lv_iconst (v := 1) hx hb dL_law_1437 (by decide) ?_
      refine lv_iadd hx hb dL_law_1438 ?_
      refine p_topI (v := 1) (by decide) ?_
      refine va_sld hx hb hX hbl hbA hS (show ¬ (_ ∨ _) by decide) dL_law_1439 ?_
      refine p_topI (v := 3) cC ?_
      refine lv_aload_n hx hb dL_law_1440 rfl (lv_at hl 4 rfl) ?_
      refine lv_iload hx hb dL_law_1441 (lv_at hl 0 rfl) ?_
      refine lv_iconst (v := 2) hx hb dL_law_1443 (by decide) ?_
      refine lv_iadd hx hb dL_law_1444 ?_
      refine p_topI (v := 2) (by decide) ?_
      refine va_sld hx hb hX hbl hbA hS (show ¬ (_ ∨ _) by decide) dL_law_1445 ?_
      refine p_topI (v := 0) cx116 ?_
      refine lv_if_eq (tgt := 1453) hx hb dL_law_1446 (by decide) (fun cx121 => ?_) (fun h9 => absurd (by decide) h9)
      refine lv_iconst (v := 0) hx hb dL_law_1453 (by decide) ?_
      refine p_ji (wr := [((qa 37), .inr (8, [.ref (qa 38), .ref (qa 39), .ref (qa 40), .ref (qa 41), .ref (qa 42), .ref (qa 43), .ref (qa 44), .int 0, .int (-1), .int 0, .int 0])), ((qa 38), .inl (k 1, 6, .inl (gs 3))), ((qa 39), .inl (k 1, 6, .inl (fun _ => 0))), ((qa 40), .inl (k 1, 6, .inl (fun _ => 0))), ((qa 41), .inl (k 1, 6, .inl (fun _ => 0))), ((qa 42), .inl (k 1, 10, .inl (fun _ => 0))), ((qa 43), .inl (k 1, 10, .inl (fun _ => 0))), ((qa 44), .inl (k 1, 10, .inl (fun _ => 0))), ((qa 45), .inr (8, [.ref (qa 46), .ref (qa 47), .ref (qa 48), .ref (qa 49), .ref (qa 50), .ref (qa 51), .ref (qa 52), .int 0, .int (-1), .int 0, .int 0])), ((qa 46), .inl (k 1, 6, .inl (gs 4))), ((qa 47), .inl (k 1, 6, .inl (fun _ => 0))), ((qa 48), .inl (k 1, 6, .inl (fun _ => 0))), ((qa 49), .inl (k 1, 6, .inl (fun _ => 0))), ((qa 50), .inl (k 1, 10, .inl (fun _ => 0))), ((qa 51), .inl (k 1, 10, .inl (fun _ => 0))), ((qa 52), .inl (k 1, 10, .inl (fun _ => 0))), ((qa 53), .inr (8, [.ref (qa 54), .ref (qa 55), .ref (qa 56), .ref (qa 57), .ref (qa 58), .ref (qa 59), .ref (qa 60), .int 0, .int (-1), .int 0, .int 0])), ((qa 54), .inl (k 1, 6, .inl (gs 5))), ((qa 55), .inl (k 1, 6, .inl (fun _ => 0))), ((qa 56), .inl (k 1, 6, .inl (fun _ => 0))), ((qa 57), .inl (k 1, 6, .inl (fun _ => 0))), ((qa 58), .inl (k 1, 10, .inl (fun _ => 0))), ((qa 59), .inl (k 1, 10, .inl (fun _ => 0))), ((qa 60), .inl (k 1, 10, .inl (fun _ => 0)))]) (va_runV (As := [.int 3, .int 0]) (rest := [.int 1]) ⟨hx, hb, hml, hown, hts⟩ (c_m_mark_3_0 l D k _ ma mg) (cwV 2 hts lg_113 rfl rfl rfl (by decide +kernel) ⟨Nat.le_of_ble_eq_true rfl, Nat.le_of_ble_eq_true rfl⟩) (pV hK hN hP hD [24, 26, 25] rfl (by decide) rfl 24 rfl rfl) rfl rfl hl.1 rfl (lv_room (Nat.le_of_ble_eq_true rfl)) dL_law_1454 ⟨by decide, by decide⟩) hP hD hS hA [24, 26, 25] [0, 1, 2, 3, 4, 5, 6, 7, 8, 9, 10, 11, 12, 13, 14, 15, 16, 17, 18, 19, 20, 21, 22, 23] rfl rfl (by decide) (by decide) (fun rx124 ux122 H locs wx123 hP hD hS => ?_)
      have hx125 : rx124 = 1 := wx123
      subst hx125
      have hP : va_P D vwCl [((qa 37), .inr (8, [.ref (qa 38), .ref (qa 39), .ref (qa 40), .ref (qa 41), .ref (qa 42), .ref (qa 43), .ref (qa 44), .int 0, .int (-1), .int 0, .int 0])), ((qa 38), .inl (k 1, 6, .inl (gs 3))), ((qa 39), .inl (k 1, 6, .inl (fun _ => 0))), ((qa 40), .inl (k 1, 6, .inl (fun _ => 0))), ((qa 41), .inl (k 1, 6, .inl (fun _ => 0))), ((qa 42), .inl (k 1, 10, .inl (fun _ => 0))), ((qa 43), .inl (k 1, 10, .inl (fun _ => 0))), ((qa 44), .inl (k 1, 10, .inl (fun _ => 0))), ((qa 45), .inr (8, [.ref (qa 46), .ref (qa 47), .ref (qa 48), .ref (qa 49), .ref (qa 50), .ref (qa 51), .ref (qa 52), .int 0, .int (-1), .int 0, .int 0])), ((qa 46), .inl (k 1, 6, .inl (gs 4))), ((qa 47), .inl (k 1, 6, .inl (fun _ => 0))), ((qa 48), .inl (k 1, 6, .inl (fun _ => 0))), ((qa 49), .inl (k 1, 6, .inl (fun _ => 0))), ((qa 50), .inl (k 1, 10, .inl (fun _ => 0))), ((qa 51), .inl (k 1, 10, .inl (fun _ => 0))), ((qa 52), .inl (k 1, 10, .inl (fun _ => 0))), ((qa 53), .inr (8, [.ref (qa 54), .ref (qa 55), .ref (qa 56), .ref (qa 57), .ref (qa 58), .ref (qa 59), .ref (qa 60), .int 0, .int (-1), .int 0, .int 0])), ((qa 54), .inl (k 1, 6, .inl (gs 5))), ((qa 55), .inl (k 1, 6, .inl (fun _ => 0))), ((qa 56), .inl (k 1, 6, .inl (fun _ => 0))), ((qa 57), .inl (k 1, 6, .inl (fun _ => 0))), ((qa 58), .inl (k 1, 10, .inl (fun _ => 0))), ((qa 59), .inl (k 1, 10, .inl (fun _ => 0))), ((qa 60), .inl (k 1, 10, .inl (fun _ => 0)))] H := hP
      have hD : va_D A [((qa 37), .inr (8, [.ref (qa 38), .ref (qa 39), .ref (qa 40), .ref (qa 41), .ref (qa 42), .ref (qa 43), .ref (qa 44), .int 0, .int (-1), .int 0, .int 0])), ((qa 38), .inl (k 1, 6, .inl (gs 3))), ((qa 39), .inl (k 1, 6, .inl (fun _ => 0))), ((qa 40), .inl (k 1, 6, .inl (fun _ => 0))), ((qa 41), .inl (k 1, 6, .inl (fun _ => 0))), ((qa 42), .inl (k 1, 10, .inl (fun _ => 0))), ((qa 43), .inl (k 1, 10, .inl (fun _ => 0))), ((qa 44), .inl (k 1, 10, .inl (fun _ => 0))), ((qa 45), .inr (8, [.ref (qa 46), .ref (qa 47), .ref (qa 48), .ref (qa 49), .ref (qa 50), .ref (qa 51), .ref (qa 52), .int 0, .int (-1), .int 0, .int 0])), ((qa 46), .inl (k 1, 6, .inl (gs 4))), ((qa 47), .inl (k 1, 6, .inl (fun _ => 0))), ((qa 48), .inl (k 1, 6, .inl (fun _ => 0))), ((qa 49), .inl (k 1, 6, .inl (fun _ => 0))), ((qa 50), .inl (k 1, 10, .inl (fun _ => 0))), ((qa 51), .inl (k 1, 10, .inl (fun _ => 0))), ((qa 52), .inl (k 1, 10, .inl (fun _ => 0))), ((qa 53), .inr (8, [.ref (qa 54), .ref (qa 55), .ref (qa 56), .ref (qa 57), .ref (qa 58), .ref (qa 59), .ref (qa 60), .int 0, .int (-1), .int 0, .int 0])), ((qa 54), .inl (k 1, 6, .inl (gs 5))), ((qa 55), .inl (k 1, 6, .inl (fun _ => 0))), ((qa 56), .inl (k 1, 6, .inl (fun _ => 0))), ((qa 57), .inl (k 1, 6, .inl (fun _ => 0))), ((qa 58), .inl (k 1, 10, .inl (fun _ => 0))), ((qa 59), .inl (k 1, 10, .inl (fun _ => 0))), ((qa 60), .inl (k 1, 10, .inl (fun _ => 0)))] := hD
      refine lv_icmp_eq (tgt := 1487) hx hb dL_law_1457 (by decide) (fun cx126 => ?_) (fun h9 => absurd (by decide) h9)
      refine lv_iinc (v := 7) (lv' := [(4, .int 7), (3, .ref out), (2, .ref (ma 0)), (1, .ref (qa 0)), (0, .ref b)]) hx hb dL_law_1487 hl (k := 0) rfl (by decide) (by decide) rfl (fun ls hl => ?_)
      refine lv_goto (tgt := 23) hx hb dL_law_1490 (by decide) ?_
      refine lv_iload hx hb dL_law_23 (lv_at hl 0 rfl) ?_
      refine lv_aload_n hx hb dL_law_25 rfl (lv_at hl 4 rfl) ?_
      refine va_slen hx hb hX hbl hbA hS dL_law_26 ?_
      refine p_topI (v := 7) (by decide) ?_
      refine lv_bipush (v := 7) hx hb dL_law_27 (by decide) ?_
      refine lv_isub hx hb dL_law_29 ?_
      refine p_topI (v := 0) (by decide) ?_
      refine lv_icmp_gt (tgt := 1493) hx hb dL_law_30 (by decide) (fun cx127 => ?_) (fun h9 => absurd (by decide) h9)
      refine lv_iconst (v := 1) hx hb dL_law_1493 (by decide) ?_
      refine va_forget (fun q hq => hAf _ (hS.2.2 q hq)) ?_
      refine W.widen (k := 600002) (n := 7302232) (by decide) (by decide) ?_
      exact lw_ret hx hb hr hlocks dL_law_1494
    · skip
      refine lv_iconst (v := 1) hx hb dL_law_1425 (by decide) ?_
      refine lv_goto (tgt := 1430) hx hb dL_law_1426 (by decide) ?_
      refine p_ji (wr := [((qa 9), .inr (8, [.ref (qa 10), .ref (qa 11), .ref (qa 12), .ref (qa 13), .ref (qa 14), .ref (qa 15), .ref (qa 16), .int 0, .int (-1), .int 0, .int 0])), ((qa 10), .inl (k 1, 6, .inl (gs 0))), ((qa 11), .inl (k 1, 6, .inl (fun _ => 0))), ((qa 12), .inl (k 1, 6, .inl (fun _ => 0))), ((qa 13), .inl (k 1, 6, .inl (fun _ => 0))), ((qa 14), .inl (k 1, 10, .inl (fun _ => 0))), ((qa 15), .inl (k 1, 10, .inl (fun _ => 0))), ((qa 16), .inl (k 1, 10, .inl (fun _ => 0))), ((qa 37), .inr (8, [.ref (qa 38), .ref (qa 39), .ref (qa 40), .ref (qa 41), .ref (qa 42), .ref (qa 43), .ref (qa 44), .int 0, .int (-1), .int 0, .int 0])), ((qa 38), .inl (k 1, 6, .inl (gs 3))), ((qa 39), .inl (k 1, 6, .inl (fun _ => 0))), ((qa 40), .inl (k 1, 6, .inl (fun _ => 0))), ((qa 41), .inl (k 1, 6, .inl (fun _ => 0))), ((qa 42), .inl (k 1, 10, .inl (fun _ => 0))), ((qa 43), .inl (k 1, 10, .inl (fun _ => 0))), ((qa 44), .inl (k 1, 10, .inl (fun _ => 0))), ((qa 45), .inr (8, [.ref (qa 46), .ref (qa 47), .ref (qa 48), .ref (qa 49), .ref (qa 50), .ref (qa 51), .ref (qa 52), .int 0, .int (-1), .int 0, .int 0])), ((qa 46), .inl (k 1, 6, .inl (gs 4))), ((qa 47), .inl (k 1, 6, .inl (fun _ => 0))), ((qa 48), .inl (k 1, 6, .inl (fun _ => 0))), ((qa 49), .inl (k 1, 6, .inl (fun _ => 0))), ((qa 50), .inl (k 1, 10, .inl (fun _ => 0))), ((qa 51), .inl (k 1, 10, .inl (fun _ => 0))), ((qa 52), .inl (k 1, 10, .inl (fun _ => 0))), ((qa 53), .inr (8, [.ref (qa 54), .ref (qa 55), .ref (qa 56), .ref (qa 57), .ref (qa 58), .ref (qa 59), .ref (qa 60), .int 0, .int (-1), .int 0, .int 0])), ((qa 54), .inl (k 1, 6, .inl (gs 5))), ((qa 55), .inl (k 1, 6, .inl (fun _ => 0))), ((qa 56), .inl (k 1, 6, .inl (fun _ => 0))), ((qa 57), .inl (k 1, 6, .inl (fun _ => 0))), ((qa 58), .inl (k 1, 10, .inl (fun _ => 0))), ((qa 59), .inl (k 1, 10, .inl (fun _ => 0))), ((qa 60), .inl (k 1, 10, .inl (fun _ => 0))), ((qa 62), .inl (k 1, 6, .inl (gs 6))), ((qa 63), .inl (k 1, 6, .inl (fun _ => 0))), ((qa 64), .inl (k 1, 6, .inl (fun _ => 0))), ((qa 65), .inl (k 1, 6, .inl (fun _ => 0))), ((qa 66), .inl (k 1, 10, .inl (fun _ => 0))), ((qa 67), .inl (k 1, 10, .inl (fun _ => 0))), ((qa 68), .inl (k 1, 10, .inl (fun _ => 0))), ((ma 0), .inr (10, [.int 0, .ref (ma 1), .int 0, .int 0, .ref (ma 4), .ref (ma 5), .ref (ma 6), .int 0, .int 0, .ref (ma 9), .ref (ma 10), .ref (ma 11), .ref (ma 12), .int 0, .ref (ma 14), .ref (ma 15), .int 0, .int 0, .ref (ma 18), .ref (ma 19), .ref (ma 20), .ref (ma 21), .ref (ma 22), .int 0, .ref (ma 24), .int 0, .ref (ma 26), .int 0, .int 0, .int 0, .int 0, .ref (ma 31), .ref (ma 32), .ref (ma 33), .ref (ma 34), .ref (ma 35), .int 0, .int 0, .ref (ma 38), .ref (ma 39), .ref (ma 40), .long 0])), ((ma 22), .inl (k 1, 1320, .inl (mg 22))), ((ma 24), .inl (k 3, 4, .inl (mg 24)))]) (va_runV (As := [.int 3, .int 1]) (rest := []) ⟨hx, hb, hml, hown, hts⟩ (c_mark_3_1 l D k _ qa) (cwV 2 hts lg_114 rfl rfl rfl (by decide +kernel) ⟨Nat.le_of_ble_eq_true rfl, Nat.le_of_ble_eq_true rfl⟩) (pV hK hN hP hD [0, 9, 34] rfl (by decide) rfl 0 rfl rfl) rfl rfl hl.1 rfl (lv_room (Nat.le_of_ble_eq_true rfl)) dL_law_1430 ⟨by decide, by decide⟩) hP hD hS hA [0, 9, 34] [1, 2, 3, 4, 5, 6, 7, 8, 10, 11, 12, 13, 14, 15, 16, 17, 18, 19, 20, 21, 22, 23, 24, 25, 26, 27, 28, 29, 30, 31, 32, 33, 35, 36, 37, 38, 39, 40, 41, 42, 43, 44] rfl rfl (by decide) (by decide) (fun rx130 ux128 H locs wx129 hP hD hS => ?_)
      have hx131 : rx130 = 0 := wx129
      subst hx131
      have hP : va_P D vwCl [((qa 9), .inr (8, [.ref (qa 10), .ref (qa 11), .ref (qa 12), .ref (qa 13), .ref (qa 14), .ref (qa 15), .ref (qa 16), .int 0, .int (-1), .int 0, .int 0])), ((qa 10), .inl (k 1, 6, .inl (gs 0))), ((qa 11), .inl (k 1, 6, .inl (fun _ => 0))), ((qa 12), .inl (k 1, 6, .inl (fun _ => 0))), ((qa 13), .inl (k 1, 6, .inl (fun _ => 0))), ((qa 14), .inl (k 1, 10, .inl (fun _ => 0))), ((qa 15), .inl (k 1, 10, .inl (fun _ => 0))), ((qa 16), .inl (k 1, 10, .inl (fun _ => 0))), ((qa 37), .inr (8, [.ref (qa 38), .ref (qa 39), .ref (qa 40), .ref (qa 41), .ref (qa 42), .ref (qa 43), .ref (qa 44), .int 0, .int (-1), .int 0, .int 0])), ((qa 38), .inl (k 1, 6, .inl (gs 3))), ((qa 39), .inl (k 1, 6, .inl (fun _ => 0))), ((qa 40), .inl (k 1, 6, .inl (fun _ => 0))), ((qa 41), .inl (k 1, 6, .inl (fun _ => 0))), ((qa 42), .inl (k 1, 10, .inl (fun _ => 0))), ((qa 43), .inl (k 1, 10, .inl (fun _ => 0))), ((qa 44), .inl (k 1, 10, .inl (fun _ => 0))), ((qa 45), .inr (8, [.ref (qa 46), .ref (qa 47), .ref (qa 48), .ref (qa 49), .ref (qa 50), .ref (qa 51), .ref (qa 52), .int 0, .int (-1), .int 0, .int 0])), ((qa 46), .inl (k 1, 6, .inl (gs 4))), ((qa 47), .inl (k 1, 6, .inl (fun _ => 0))), ((qa 48), .inl (k 1, 6, .inl (fun _ => 0))), ((qa 49), .inl (k 1, 6, .inl (fun _ => 0))), ((qa 50), .inl (k 1, 10, .inl (fun _ => 0))), ((qa 51), .inl (k 1, 10, .inl (fun _ => 0))), ((qa 52), .inl (k 1, 10, .inl (fun _ => 0))), ((qa 53), .inr (8, [.ref (qa 54), .ref (qa 55), .ref (qa 56), .ref (qa 57), .ref (qa 58), .ref (qa 59), .ref (qa 60), .int 0, .int (-1), .int 0, .int 0])), ((qa 54), .inl (k 1, 6, .inl (gs 5))), ((qa 55), .inl (k 1, 6, .inl (fun _ => 0))), ((qa 56), .inl (k 1, 6, .inl (fun _ => 0))), ((qa 57), .inl (k 1, 6, .inl (fun _ => 0))), ((qa 58), .inl (k 1, 10, .inl (fun _ => 0))), ((qa 59), .inl (k 1, 10, .inl (fun _ => 0))), ((qa 60), .inl (k 1, 10, .inl (fun _ => 0))), ((qa 62), .inl (k 1, 6, .inl (gs 6))), ((qa 63), .inl (k 1, 6, .inl (fun _ => 0))), ((qa 64), .inl (k 1, 6, .inl (fun _ => 0))), ((qa 65), .inl (k 1, 6, .inl (fun _ => 0))), ((qa 66), .inl (k 1, 10, .inl (fun _ => 0))), ((qa 67), .inl (k 1, 10, .inl (fun _ => 0))), ((qa 68), .inl (k 1, 10, .inl (fun _ => 0))), ((ma 0), .inr (10, [.int 0, .ref (ma 1), .int 0, .int 0, .ref (ma 4), .ref (ma 5), .ref (ma 6), .int 0, .int 0, .ref (ma 9), .ref (ma 10), .ref (ma 11), .ref (ma 12), .int 0, .ref (ma 14), .ref (ma 15), .int 0, .int 0, .ref (ma 18), .ref (ma 19), .ref (ma 20), .ref (ma 21), .ref (ma 22), .int 0, .ref (ma 24), .int 0, .ref (ma 26), .int 0, .int 0, .int 0, .int 0, .ref (ma 31), .ref (ma 32), .ref (ma 33), .ref (ma 34), .ref (ma 35), .int 0, .int 0, .ref (ma 38), .ref (ma 39), .ref (ma 40), .long 0])), ((ma 22), .inl (k 1, 1320, .inl (mg 22))), ((ma 24), .inl (k 3, 4, .inl (mg 24)))] H := hP
      have hD : va_D A [((qa 9), .inr (8, [.ref (qa 10), .ref (qa 11), .ref (qa 12), .ref (qa 13), .ref (qa 14), .ref (qa 15), .ref (qa 16), .int 0, .int (-1), .int 0, .int 0])), ((qa 10), .inl (k 1, 6, .inl (gs 0))), ((qa 11), .inl (k 1, 6, .inl (fun _ => 0))), ((qa 12), .inl (k 1, 6, .inl (fun _ => 0))), ((qa 13), .inl (k 1, 6, .inl (fun _ => 0))), ((qa 14), .inl (k 1, 10, .inl (fun _ => 0))), ((qa 15), .inl (k 1, 10, .inl (fun _ => 0))), ((qa 16), .inl (k 1, 10, .inl (fun _ => 0))), ((qa 37), .inr (8, [.ref (qa 38), .ref (qa 39), .ref (qa 40), .ref (qa 41), .ref (qa 42), .ref (qa 43), .ref (qa 44), .int 0, .int (-1), .int 0, .int 0])), ((qa 38), .inl (k 1, 6, .inl (gs 3))), ((qa 39), .inl (k 1, 6, .inl (fun _ => 0))), ((qa 40), .inl (k 1, 6, .inl (fun _ => 0))), ((qa 41), .inl (k 1, 6, .inl (fun _ => 0))), ((qa 42), .inl (k 1, 10, .inl (fun _ => 0))), ((qa 43), .inl (k 1, 10, .inl (fun _ => 0))), ((qa 44), .inl (k 1, 10, .inl (fun _ => 0))), ((qa 45), .inr (8, [.ref (qa 46), .ref (qa 47), .ref (qa 48), .ref (qa 49), .ref (qa 50), .ref (qa 51), .ref (qa 52), .int 0, .int (-1), .int 0, .int 0])), ((qa 46), .inl (k 1, 6, .inl (gs 4))), ((qa 47), .inl (k 1, 6, .inl (fun _ => 0))), ((qa 48), .inl (k 1, 6, .inl (fun _ => 0))), ((qa 49), .inl (k 1, 6, .inl (fun _ => 0))), ((qa 50), .inl (k 1, 10, .inl (fun _ => 0))), ((qa 51), .inl (k 1, 10, .inl (fun _ => 0))), ((qa 52), .inl (k 1, 10, .inl (fun _ => 0))), ((qa 53), .inr (8, [.ref (qa 54), .ref (qa 55), .ref (qa 56), .ref (qa 57), .ref (qa 58), .ref (qa 59), .ref (qa 60), .int 0, .int (-1), .int 0, .int 0])), ((qa 54), .inl (k 1, 6, .inl (gs 5))), ((qa 55), .inl (k 1, 6, .inl (fun _ => 0))), ((qa 56), .inl (k 1, 6, .inl (fun _ => 0))), ((qa 57), .inl (k 1, 6, .inl (fun _ => 0))), ((qa 58), .inl (k 1, 10, .inl (fun _ => 0))), ((qa 59), .inl (k 1, 10, .inl (fun _ => 0))), ((qa 60), .inl (k 1, 10, .inl (fun _ => 0))), ((qa 62), .inl (k 1, 6, .inl (gs 6))), ((qa 63), .inl (k 1, 6, .inl (fun _ => 0))), ((qa 64), .inl (k 1, 6, .inl (fun _ => 0))), ((qa 65), .inl (k 1, 6, .inl (fun _ => 0))), ((qa 66), .inl (k 1, 10, .inl (fun _ => 0))), ((qa 67), .inl (k 1, 10, .inl (fun _ => 0))), ((qa 68), .inl (k 1, 10, .inl (fun _ => 0))), ((ma 0), .inr (10, [.int 0, .ref (ma 1), .int 0, .int 0, .ref (ma 4), .ref (ma 5), .ref (ma 6), .int 0, .int 0, .ref (ma 9), .ref (ma 10), .ref (ma 11), .ref (ma 12), .int 0, .ref (ma 14), .ref (ma 15), .int 0, .int 0, .ref (ma 18), .ref (ma 19), .ref (ma 20), .ref (ma 21), .ref (ma 22), .int 0, .ref (ma 24), .int 0, .ref (ma 26), .int 0, .int 0, .int 0, .int 0, .ref (ma 31), .ref (ma 32), .ref (ma 33), .ref (ma 34), .ref (ma 35), .int 0, .int 0, .ref (ma 38), .ref (ma 39), .ref (ma 40), .long 0])), ((ma 22), .inl (k 1, 1320, .inl (mg 22))), ((ma 24), .inl (k 3, 4, .inl (mg 24)))] := hD
      refine lv_aload_n hx hb dL_law_1433 rfl (lv_at hl 2 rfl) ?_
      refine lv_aload_n hx hb dL_law_1434 rfl (lv_at hl 4 rfl) ?_
      refine lv_iload hx hb dL_law_1435 (lv_at hl 0 rfl) ?_
      refine lv_iconst (v := 1) hx hb dL_law_1437 (by decide) ?_
      refine lv_iadd hx hb dL_law_1438 ?_
      refine p_topI (v := 1) (by decide) ?_
      refine va_sld hx hb hX hbl hbA hS (show ¬ (_ ∨ _) by decide) dL_law_1439 ?_
      refine p_topI (v := 3) cC ?_
      refine lv_aload_n hx hb dL_law_1440 rfl (lv_at hl 4 rfl) ?_
      refine lv_iload hx hb dL_law_1441 (lv_at hl 0 rfl) ?_
      refine lv_iconst (v := 2) hx hb dL_law_1443 (by decide) ?_
      refine lv_iadd hx hb dL_law_1444 ?_
      refine p_topI (v := 2) (by decide) ?_
      refine va_sld hx hb hX hbl hbA hS (show ¬ (_ ∨ _) by decide) dL_law_1445 ?_
      refine p_topI (v := (xs 2)) rfl ?_
      refine lv_if_eq (tgt := 1453) hx hb dL_law_1446 (by decide) (fun h9 => absurd h9 cx116) (fun cx132 => ?_)
      refine lv_iconst (v := 1) hx hb dL_law_1449 (by decide) ?_
      refine lv_goto (tgt := 1454) hx hb dL_law_1450 (by decide) ?_
      refine p_ji (wr := [((qa 9), .inr (8, [.ref (qa 10), .ref (qa 11), .ref (qa 12), .ref (qa 13), .ref (qa 14), .ref (qa 15), .ref (qa 16), .int 0, .int (-1), .int 0, .int 0])), ((qa 10), .inl (k 1, 6, .inl (gs 0))), ((qa 11), .inl (k 1, 6, .inl (fun _ => 0))), ((qa 12), .inl (k 1, 6, .inl (fun _ => 0))), ((qa 13), .inl (k 1, 6, .inl (fun _ => 0))), ((qa 14), .inl (k 1, 10, .inl (fun _ => 0))), ((qa 15), .inl (k 1, 10, .inl (fun _ => 0))), ((qa 16), .inl (k 1, 10, .inl (fun _ => 0))), ((qa 37), .inr (8, [.ref (qa 38), .ref (qa 39), .ref (qa 40), .ref (qa 41), .ref (qa 42), .ref (qa 43), .ref (qa 44), .int 0, .int (-1), .int 0, .int 0])), ((qa 38), .inl (k 1, 6, .inl (gs 3))), ((qa 39), .inl (k 1, 6, .inl (fun _ => 0))), ((qa 40), .inl (k 1, 6, .inl (fun _ => 0))), ((qa 41), .inl (k 1, 6, .inl (fun _ => 0))), ((qa 42), .inl (k 1, 10, .inl (fun _ => 0))), ((qa 43), .inl (k 1, 10, .inl (fun _ => 0))), ((qa 44), .inl (k 1, 10, .inl (fun _ => 0))), ((qa 45), .inr (8, [.ref (qa 46), .ref (qa 47), .ref (qa 48), .ref (qa 49), .ref (qa 50), .ref (qa 51), .ref (qa 52), .int 0, .int (-1), .int 0, .int 0])), ((qa 46), .inl (k 1, 6, .inl (gs 4))), ((qa 47), .inl (k 1, 6, .inl (fun _ => 0))), ((qa 48), .inl (k 1, 6, .inl (fun _ => 0))), ((qa 49), .inl (k 1, 6, .inl (fun _ => 0))), ((qa 50), .inl (k 1, 10, .inl (fun _ => 0))), ((qa 51), .inl (k 1, 10, .inl (fun _ => 0))), ((qa 52), .inl (k 1, 10, .inl (fun _ => 0))), ((qa 53), .inr (8, [.ref (qa 54), .ref (qa 55), .ref (qa 56), .ref (qa 57), .ref (qa 58), .ref (qa 59), .ref (qa 60), .int 0, .int (-1), .int 0, .int 0])), ((qa 54), .inl (k 1, 6, .inl (gs 5))), ((qa 55), .inl (k 1, 6, .inl (fun _ => 0))), ((qa 56), .inl (k 1, 6, .inl (fun _ => 0))), ((qa 57), .inl (k 1, 6, .inl (fun _ => 0))), ((qa 58), .inl (k 1, 10, .inl (fun _ => 0))), ((qa 59), .inl (k 1, 10, .inl (fun _ => 0))), ((qa 60), .inl (k 1, 10, .inl (fun _ => 0))), ((qa 62), .inl (k 1, 6, .inl (gs 6))), ((qa 63), .inl (k 1, 6, .inl (fun _ => 0))), ((qa 64), .inl (k 1, 6, .inl (fun _ => 0))), ((qa 65), .inl (k 1, 6, .inl (fun _ => 0))), ((qa 66), .inl (k 1, 10, .inl (fun _ => 0))), ((qa 67), .inl (k 1, 10, .inl (fun _ => 0))), ((qa 68), .inl (k 1, 10, .inl (fun _ => 0))), ((ma 22), .inl (k 1, 1320, .inl (mg 22)))]) (va_runV (As := [.int 3, .int 1]) (rest := [.int 0]) ⟨hx, hb, hml, hown, hts⟩ (c_m_mark_3_1 l D k _ ma mg hm3) (cwV 2 hts lg_115 rfl rfl rfl (by decide +kernel) ⟨Nat.le_of_ble_eq_true rfl, Nat.le_of_ble_eq_true rfl⟩) (pV hK hN hP hD [39, 41] rfl (by decide) rfl 39 rfl rfl) rfl rfl hl.1 rfl (lv_room (Nat.le_of_ble_eq_true rfl)) dL_law_1454 ⟨by decide, by decide⟩) hP hD hS hA [39, 41] [0, 1, 2, 3, 4, 5, 6, 7, 8, 9, 10, 11, 12, 13, 14, 15, 16, 17, 18, 19, 20, 21, 22, 23, 24, 25, 26, 27, 28, 29, 30, 31, 32, 33, 34, 35, 36, 37, 38, 40] rfl rfl (by decide) (by decide) (fun rx135 ux133 H locs wx134 hP hD hS => ?_)
      have hx136 : rx135 = 0 := wx134
      subst hx136
      have hP : va_P D vwCl [((qa 9), .inr (8, [.ref (qa 10), .ref (qa 11), .ref (qa 12), .ref (qa 13), .ref (qa 14), .ref (qa 15), .ref (qa 16), .int 0, .int (-1), .int 0, .int 0])), ((qa 10), .inl (k 1, 6, .inl (gs 0))), ((qa 11), .inl (k 1, 6, .inl (fun _ => 0))), ((qa 12), .inl (k 1, 6, .inl (fun _ => 0))), ((qa 13), .inl (k 1, 6, .inl (fun _ => 0))), ((qa 14), .inl (k 1, 10, .inl (fun _ => 0))), ((qa 15), .inl (k 1, 10, .inl (fun _ => 0))), ((qa 16), .inl (k 1, 10, .inl (fun _ => 0))), ((qa 37), .inr (8, [.ref (qa 38), .ref (qa 39), .ref (qa 40), .ref (qa 41), .ref (qa 42), .ref (qa 43), .ref (qa 44), .int 0, .int (-1), .int 0, .int 0])), ((qa 38), .inl (k 1, 6, .inl (gs 3))), ((qa 39), .inl (k 1, 6, .inl (fun _ => 0))), ((qa 40), .inl (k 1, 6, .inl (fun _ => 0))), ((qa 41), .inl (k 1, 6, .inl (fun _ => 0))), ((qa 42), .inl (k 1, 10, .inl (fun _ => 0))), ((qa 43), .inl (k 1, 10, .inl (fun _ => 0))), ((qa 44), .inl (k 1, 10, .inl (fun _ => 0))), ((qa 45), .inr (8, [.ref (qa 46), .ref (qa 47), .ref (qa 48), .ref (qa 49), .ref (qa 50), .ref (qa 51), .ref (qa 52), .int 0, .int (-1), .int 0, .int 0])), ((qa 46), .inl (k 1, 6, .inl (gs 4))), ((qa 47), .inl (k 1, 6, .inl (fun _ => 0))), ((qa 48), .inl (k 1, 6, .inl (fun _ => 0))), ((qa 49), .inl (k 1, 6, .inl (fun _ => 0))), ((qa 50), .inl (k 1, 10, .inl (fun _ => 0))), ((qa 51), .inl (k 1, 10, .inl (fun _ => 0))), ((qa 52), .inl (k 1, 10, .inl (fun _ => 0))), ((qa 53), .inr (8, [.ref (qa 54), .ref (qa 55), .ref (qa 56), .ref (qa 57), .ref (qa 58), .ref (qa 59), .ref (qa 60), .int 0, .int (-1), .int 0, .int 0])), ((qa 54), .inl (k 1, 6, .inl (gs 5))), ((qa 55), .inl (k 1, 6, .inl (fun _ => 0))), ((qa 56), .inl (k 1, 6, .inl (fun _ => 0))), ((qa 57), .inl (k 1, 6, .inl (fun _ => 0))), ((qa 58), .inl (k 1, 10, .inl (fun _ => 0))), ((qa 59), .inl (k 1, 10, .inl (fun _ => 0))), ((qa 60), .inl (k 1, 10, .inl (fun _ => 0))), ((qa 62), .inl (k 1, 6, .inl (gs 6))), ((qa 63), .inl (k 1, 6, .inl (fun _ => 0))), ((qa 64), .inl (k 1, 6, .inl (fun _ => 0))), ((qa 65), .inl (k 1, 6, .inl (fun _ => 0))), ((qa 66), .inl (k 1, 10, .inl (fun _ => 0))), ((qa 67), .inl (k 1, 10, .inl (fun _ => 0))), ((qa 68), .inl (k 1, 10, .inl (fun _ => 0))), ((ma 22), .inl (k 1, 1320, .inl (mg 22)))] H := hP
      have hD : va_D A [((qa 9), .inr (8, [.ref (qa 10), .ref (qa 11), .ref (qa 12), .ref (qa 13), .ref (qa 14), .ref (qa 15), .ref (qa 16), .int 0, .int (-1), .int 0, .int 0])), ((qa 10), .inl (k 1, 6, .inl (gs 0))), ((qa 11), .inl (k 1, 6, .inl (fun _ => 0))), ((qa 12), .inl (k 1, 6, .inl (fun _ => 0))), ((qa 13), .inl (k 1, 6, .inl (fun _ => 0))), ((qa 14), .inl (k 1, 10, .inl (fun _ => 0))), ((qa 15), .inl (k 1, 10, .inl (fun _ => 0))), ((qa 16), .inl (k 1, 10, .inl (fun _ => 0))), ((qa 37), .inr (8, [.ref (qa 38), .ref (qa 39), .ref (qa 40), .ref (qa 41), .ref (qa 42), .ref (qa 43), .ref (qa 44), .int 0, .int (-1), .int 0, .int 0])), ((qa 38), .inl (k 1, 6, .inl (gs 3))), ((qa 39), .inl (k 1, 6, .inl (fun _ => 0))), ((qa 40), .inl (k 1, 6, .inl (fun _ => 0))), ((qa 41), .inl (k 1, 6, .inl (fun _ => 0))), ((qa 42), .inl (k 1, 10, .inl (fun _ => 0))), ((qa 43), .inl (k 1, 10, .inl (fun _ => 0))), ((qa 44), .inl (k 1, 10, .inl (fun _ => 0))), ((qa 45), .inr (8, [.ref (qa 46), .ref (qa 47), .ref (qa 48), .ref (qa 49), .ref (qa 50), .ref (qa 51), .ref (qa 52), .int 0, .int (-1), .int 0, .int 0])), ((qa 46), .inl (k 1, 6, .inl (gs 4))), ((qa 47), .inl (k 1, 6, .inl (fun _ => 0))), ((qa 48), .inl (k 1, 6, .inl (fun _ => 0))), ((qa 49), .inl (k 1, 6, .inl (fun _ => 0))), ((qa 50), .inl (k 1, 10, .inl (fun _ => 0))), ((qa 51), .inl (k 1, 10, .inl (fun _ => 0))), ((qa 52), .inl (k 1, 10, .inl (fun _ => 0))), ((qa 53), .inr (8, [.ref (qa 54), .ref (qa 55), .ref (qa 56), .ref (qa 57), .ref (qa 58), .ref (qa 59), .ref (qa 60), .int 0, .int (-1), .int 0, .int 0])), ((qa 54), .inl (k 1, 6, .inl (gs 5))), ((qa 55), .inl (k 1, 6, .inl (fun _ => 0))), ((qa 56), .inl (k 1, 6, .inl (fun _ => 0))), ((qa 57), .inl (k 1, 6, .inl (fun _ => 0))), ((qa 58), .inl (k 1, 10, .inl (fun _ => 0))), ((qa 59), .inl (k 1, 10, .inl (fun _ => 0))), ((qa 60), .inl (k 1, 10, .inl (fun _ => 0))), ((qa 62), .inl (k 1, 6, .inl (gs 6))), ((qa 63), .inl (k 1, 6, .inl (fun _ => 0))), ((qa 64), .inl (k 1, 6, .inl (fun _ => 0))), ((qa 65), .inl (k 1, 6, .inl (fun _ => 0))), ((qa 66), .inl (k 1, 10, .inl (fun _ => 0))), ((qa 67), .inl (k 1, 10, .inl (fun _ => 0))), ((qa 68), .inl (k 1, 10, .inl (fun _ => 0))), ((ma 22), .inl (k 1, 1320, .inl (mg 22)))] := hD
      refine lv_icmp_eq (tgt := 1487) hx hb dL_law_1457 (by decide) (fun cx137 => ?_) (fun h9 => absurd (by decide) h9)
      refine lv_iinc (v := 7) (lv' := [(4, .int 7), (3, .ref out), (2, .ref (ma 0)), (1, .ref (qa 0)), (0, .ref b)]) hx hb dL_law_1487 hl (k := 0) rfl (by decide) (by decide) rfl (fun ls hl => ?_)
      refine lv_goto (tgt := 23) hx hb dL_law_1490 (by decide) ?_
      refine lv_iload hx hb dL_law_23 (lv_at hl 0 rfl) ?_
      refine lv_aload_n hx hb dL_law_25 rfl (lv_at hl 4 rfl) ?_
      refine va_slen hx hb hX hbl hbA hS dL_law_26 ?_
      refine p_topI (v := 7) (by decide) ?_
      refine lv_bipush (v := 7) hx hb dL_law_27 (by decide) ?_
      refine lv_isub hx hb dL_law_29 ?_
      refine p_topI (v := 0) (by decide) ?_
      refine lv_icmp_gt (tgt := 1493) hx hb dL_law_30 (by decide) (fun cx138 => ?_) (fun h9 => absurd (by decide) h9)
      refine lv_iconst (v := 1) hx hb dL_law_1493 (by decide) ?_
      refine va_forget (fun q hq => hAf _ (hS.2.2 q hq)) ?_
      refine W.widen (k := 600002) (n := 7302232) (by decide) (by decide) ?_
      exact lw_ret hx hb hr hlocks dL_law_1494
set_option maxHeartbeats 4000000 in
set_option maxRecDepth 100000 in
theorem lc_count {p : Program} {e : Env} {s : State} {m : MethodId} {below : List Frame} {meth : Method} {c : Code} (l : Launch) {b : Nat} {xs : Nat → Int32} (C0 : lw_At p s m meth c b 7 xs) (hts : ∀ w ∈ p_tbl, w.before #[Value.ref b] s = true) {D : va_G} {k : Nat → ClassId} (hK : va_K D vwCl (pT k) s) (hN : pN s) {A : Nat → Prop} (hA : ∀ q : Nat, s.heap.size ≤ q → A q) (hAf : ∀ q : Nat, A q → s.heap.size ≤ q) (qa ma : Nat → Nat) (gs mg : Nat → Nat → Int32) (out : Nat) (hf : p_mf mg) {H : Heap} {locs : List Loc} {ls : Array Slot} (hP : va_P D vwCl (p_big k qa ma gs mg) H) (hD : va_D A (p_big k qa ma gs mg)) (hS : va_S A s.heap H locs) (hl : lv_has ls 7 [(4, .int 0), (3, .ref out), (2, .ref (ma 0)), (1, .ref (qa 0)), (0, .ref b)]) : W p l e room_1 s m #[Value.ref b] below meth c H locs 265 37830 (lw_Z below #[Value.ref b] s) (F0 m 1462 ls []) := by
  obtain ⟨hx, hb, hr, hml, hown, -, hX, hbl, hlocks, hgv⟩ := C0
  obtain ⟨hl0, hl1, hl2, hs0, hs19, hs26, hn0, hm0, hm1, hm2, hm3⟩ := hf
  have hbA : ¬ A b := fun h => absurd (hAf b h) (Nat.not_le.mpr hbl)
  have hP := hP.sub (ws' := [((qa 0), .inr (9, [.ref (qa 1), .ref (qa 6), .ref (qa 9), .ref (qa 17), .ref (qa 18), .ref (qa 19), .ref (qa 20), .ref (qa 23), .ref (qa 25), .ref (qa 28), .ref (qa 29), .ref (qa 30), .ref (qa 31), .int 0, .int 0, .int 0])), ((qa 1), .inr (7, [.ref (qa 2), .ref (qa 3), .ref (qa 4), .ref (qa 5), .int 0, .int 0, .int 0, .int 0, .int 0, .int 0, .long 0, .null])), ((qa 9), .inr (8, [.ref (qa 10), .ref (qa 11), .ref (qa 12), .ref (qa 13), .ref (qa 14), .ref (qa 15), .ref (qa 16), .int 0, .int (-1), .int 0, .int 0])), ((qa 20), .inr (4, [.ref (qa 21), .ref (qa 22), .ref (qa 30)])), ((qa 21), .inl (k 1, 6, .inl (fun _ => 0))), ((qa 22), .inl (k 1, 6, .inl (fun _ => 0))), ((qa 30), .inr (2, [.ref (qa 133), .ref (qa 134), .ref (qa 135), .ref (qa 136), .ref (qa 137), .ref (qa 138), .ref (qa 139), .int 0, .int 0, .int 0, .int 0, .int 0])), ((ma 0), .inr (10, [.int 0, .ref (ma 1), .int 0, .int 0, .ref (ma 4), .ref (ma 5), .ref (ma 6), .int 0, .int 0, .ref (ma 9), .ref (ma 10), .ref (ma 11), .ref (ma 12), .int 0, .ref (ma 14), .ref (ma 15), .int 0, .int 0, .ref (ma 18), .ref (ma 19), .ref (ma 20), .ref (ma 21), .ref (ma 22), .int 0, .ref (ma 24), .int 0, .ref (ma 26), .int 0, .int 0, .int 0, .int 0, .ref (ma 31), .ref (ma 32), .ref (ma 33), .ref (ma 34), .ref (ma 35), .int 0, .int 0, .ref (ma 38), .ref (ma 39), .ref (ma 40), .long 0])), ((ma 10), .inl (k 1, 220, .inl (mg 10))), ((ma 18), .inl (k 1, 160, .inl (mg 18))), ((ma 22), .inl (k 1, 1320, .inl (mg 22)))]) [0, 1, 9, 20, 21, 22, 30, 133, 137, 140, 141] rfl
  have hD := hD.sub (ws' := [((qa 0), .inr (9, [.ref (qa 1), .ref (qa 6), .ref (qa 9), .ref (qa 17), .ref (qa 18), .ref (qa 19), .ref (qa 20), .ref (qa 23), .ref (qa 25), .ref (qa 28), .ref (qa 29), .ref (qa 30), .ref (qa 31), .int 0, .int 0, .int 0])), ((qa 1), .inr (7, [.ref (qa 2), .ref (qa 3), .ref (qa 4), .ref (qa 5), .int 0, .int 0, .int 0, .int 0, .int 0, .int 0, .long 0, .null])), ((qa 9), .inr (8, [.ref (qa 10), .ref (qa 11), .ref (qa 12), .ref (qa 13), .ref (qa 14), .ref (qa 15), .ref (qa 16), .int 0, .int (-1), .int 0, .int 0])), ((qa 20), .inr (4, [.ref (qa 21), .ref (qa 22), .ref (qa 30)])), ((qa 21), .inl (k 1, 6, .inl (fun _ => 0))), ((qa 22), .inl (k 1, 6, .inl (fun _ => 0))), ((qa 30), .inr (2, [.ref (qa 133), .ref (qa 134), .ref (qa 135), .ref (qa 136), .ref (qa 137), .ref (qa 138), .ref (qa 139), .int 0, .int 0, .int 0, .int 0, .int 0])), ((ma 0), .inr (10, [.int 0, .ref (ma 1), .int 0, .int 0, .ref (ma 4), .ref (ma 5), .ref (ma 6), .int 0, .int 0, .ref (ma 9), .ref (ma 10), .ref (ma 11), .ref (ma 12), .int 0, .ref (ma 14), .ref (ma 15), .int 0, .int 0, .ref (ma 18), .ref (ma 19), .ref (ma 20), .ref (ma 21), .ref (ma 22), .int 0, .ref (ma 24), .int 0, .ref (ma 26), .int 0, .int 0, .int 0, .int 0, .ref (ma 31), .ref (ma 32), .ref (ma 33), .ref (ma 34), .ref (ma 35), .int 0, .int 0, .ref (ma 38), .ref (ma 39), .ref (ma 40), .long 0])), ((ma 10), .inl (k 1, 220, .inl (mg 10))), ((ma 18), .inl (k 1, 160, .inl (mg 18))), ((ma 22), .inl (k 1, 1320, .inl (mg 22)))]) [0, 1, 9, 20, 21, 22, 30, 133, 137, 140, 141] (by decide) rfl
  by_cases cA : (xs 1) < 0
  · skip
    refine lv_aload_n hx hb dL_law_1462 rfl (lv_at hl 3 rfl) ?_
    refine lv_aload_n hx hb dL_law_1463 rfl (lv_at hl 4 rfl) ?_
    refine lv_iload hx hb dL_law_1464 (lv_at hl 0 rfl) ?_
    refine lv_iconst (v := 1) hx hb dL_law_1466 (by decide) ?_
    refine lv_iadd hx hb dL_law_1467 ?_
    refine p_topI (v := 1) (by decide) ?_
    refine va_sld hx hb hX hbl hbA hS (show ¬ (_ ∨ _) by decide) dL_law_1468 ?_
    refine p_topI (v := (xs 1)) rfl ?_
    refine p_ji (wr := [((ma 0), .inr (10, [.int 0, .ref (ma 1), .int 0, .int 0, .ref (ma 4), .ref (ma 5), .ref (ma 6), .int 0, .int 0, .ref (ma 9), .ref (ma 10), .ref (ma 11), .ref (ma 12), .int 0, .ref (ma 14), .ref (ma 15), .int 0, .int 0, .ref (ma 18), .ref (ma 19), .ref (ma 20), .ref (ma 21), .ref (ma 22), .int 0, .ref (ma 24), .int 0, .ref (ma 26), .int 0, .int 0, .int 0, .int 0, .ref (ma 31), .ref (ma 32), .ref (ma 33), .ref (ma 34), .ref (ma 35), .int 0, .int 0, .ref (ma 38), .ref (ma 39), .ref (ma 40), .long 0])), ((ma 10), .inl (k 1, 220, .inl (mg 10))), ((ma 18), .inl (k 1, 160, .inl (mg 18))), ((ma 22), .inl (k 1, 1320, .inl (mg 22)))]) (va_runV (As := [.int (xs 1)]) (rest := []) ⟨hx, hb, hml, hown, hts⟩ (c_count_lo l D k _ qa (xs 1) cA) (cwV 1 hts lg_116 rfl rfl rfl (by decide +kernel) ⟨Nat.le_of_ble_eq_true rfl, Nat.le_of_ble_eq_true rfl⟩) (pV hK hN hP hD [0, 2, 6, 3, 4, 5, 1] rfl (by decide) rfl 0 rfl rfl) rfl rfl hl.1 rfl (lv_room (Nat.le_of_ble_eq_true rfl)) dL_law_1469 ⟨by decide, by decide⟩) hP hD hS hA [0, 2, 6, 3, 4, 5, 1] [7, 8, 9, 10] rfl rfl (by decide) (by decide) (fun rx3 ux1 H locs wx2 hP hD hS => ?_)
    have hx4 : rx3 = (-1) := wx2
    subst hx4
    have hP : va_P D vwCl [((ma 0), .inr (10, [.int 0, .ref (ma 1), .int 0, .int 0, .ref (ma 4), .ref (ma 5), .ref (ma 6), .int 0, .int 0, .ref (ma 9), .ref (ma 10), .ref (ma 11), .ref (ma 12), .int 0, .ref (ma 14), .ref (ma 15), .int 0, .int 0, .ref (ma 18), .ref (ma 19), .ref (ma 20), .ref (ma 21), .ref (ma 22), .int 0, .ref (ma 24), .int 0, .ref (ma 26), .int 0, .int 0, .int 0, .int 0, .ref (ma 31), .ref (ma 32), .ref (ma 33), .ref (ma 34), .ref (ma 35), .int 0, .int 0, .ref (ma 38), .ref (ma 39), .ref (ma 40), .long 0])), ((ma 10), .inl (k 1, 220, .inl (mg 10))), ((ma 18), .inl (k 1, 160, .inl (mg 18))), ((ma 22), .inl (k 1, 1320, .inl (mg 22)))] H := hP
    have hD : va_D A [((ma 0), .inr (10, [.int 0, .ref (ma 1), .int 0, .int 0, .ref (ma 4), .ref (ma 5), .ref (ma 6), .int 0, .int 0, .ref (ma 9), .ref (ma 10), .ref (ma 11), .ref (ma 12), .int 0, .ref (ma 14), .ref (ma 15), .int 0, .int 0, .ref (ma 18), .ref (ma 19), .ref (ma 20), .ref (ma 21), .ref (ma 22), .int 0, .ref (ma 24), .int 0, .ref (ma 26), .int 0, .int 0, .int 0, .int 0, .ref (ma 31), .ref (ma 32), .ref (ma 33), .ref (ma 34), .ref (ma 35), .int 0, .int 0, .ref (ma 38), .ref (ma 39), .ref (ma 40), .long 0])), ((ma 10), .inl (k 1, 220, .inl (mg 10))), ((ma 18), .inl (k 1, 160, .inl (mg 18))), ((ma 22), .inl (k 1, 1320, .inl (mg 22)))] := hD
    refine lv_aload_n hx hb dL_law_1472 rfl (lv_at hl 2 rfl) ?_
    refine lv_aload_n hx hb dL_law_1473 rfl (lv_at hl 4 rfl) ?_
    refine lv_iload hx hb dL_law_1474 (lv_at hl 0 rfl) ?_
    refine lv_iconst (v := 1) hx hb dL_law_1476 (by decide) ?_
    refine lv_iadd hx hb dL_law_1477 ?_
    refine p_topI (v := 1) (by decide) ?_
    refine va_sld hx hb hX hbl hbA hS (show ¬ (_ ∨ _) by decide) dL_law_1478 ?_
    refine p_topI (v := (xs 1)) rfl ?_
    refine p_ji (wr := [((ma 10), .inl (k 1, 220, .inl (mg 10))), ((ma 18), .inl (k 1, 160, .inl (mg 18))), ((ma 22), .inl (k 1, 1320, .inl (mg 22)))]) (va_runV (As := [.int (xs 1)]) (rest := [.int (-1)]) ⟨hx, hb, hml, hown, hts⟩ (c_m_count_lo l D k _ ma (xs 1) cA) (cwV 1 hts lg_117 rfl rfl rfl (by decide +kernel) ⟨Nat.le_of_ble_eq_true rfl, Nat.le_of_ble_eq_true rfl⟩) (pV hK hN hP hD [0] rfl (by decide) rfl 0 rfl rfl) rfl rfl hl.1 rfl (lv_room (Nat.le_of_ble_eq_true rfl)) dL_law_1479 ⟨by decide, by decide⟩) hP hD hS hA [0] [1, 2, 3] rfl rfl (by decide) (by decide) (fun rx7 ux5 H locs wx6 hP hD hS => ?_)
    have hx8 : rx7 = (-1) := wx6
    subst hx8
    have hP : va_P D vwCl [((ma 10), .inl (k 1, 220, .inl (mg 10))), ((ma 18), .inl (k 1, 160, .inl (mg 18))), ((ma 22), .inl (k 1, 1320, .inl (mg 22)))] H := hP
    have hD : va_D A [((ma 10), .inl (k 1, 220, .inl (mg 10))), ((ma 18), .inl (k 1, 160, .inl (mg 18))), ((ma 22), .inl (k 1, 1320, .inl (mg 22)))] := hD
    refine lv_icmp_eq (tgt := 1487) hx hb dL_law_1482 (by decide) (fun cx9 => ?_) (fun h9 => absurd (by decide) h9)
    refine lv_iinc (v := 7) (lv' := [(4, .int 7), (3, .ref out), (2, .ref (ma 0)), (1, .ref (qa 0)), (0, .ref b)]) hx hb dL_law_1487 hl (k := 0) rfl (by decide) (by decide) rfl (fun ls hl => ?_)
    refine lv_goto (tgt := 23) hx hb dL_law_1490 (by decide) ?_
    refine lv_iload hx hb dL_law_23 (lv_at hl 0 rfl) ?_
    refine lv_aload_n hx hb dL_law_25 rfl (lv_at hl 4 rfl) ?_
    refine va_slen hx hb hX hbl hbA hS dL_law_26 ?_
    refine p_topI (v := 7) (by decide) ?_
    refine lv_bipush (v := 7) hx hb dL_law_27 (by decide) ?_
    refine lv_isub hx hb dL_law_29 ?_
    refine p_topI (v := 0) (by decide) ?_
    refine lv_icmp_gt (tgt := 1493) hx hb dL_law_30 (by decide) (fun cx10 => ?_) (fun h9 => absurd (by decide) h9)
    refine lv_iconst (v := 1) hx hb dL_law_1493 (by decide) ?_
    refine va_forget (fun q hq => hAf _ (hS.2.2 q hq)) ?_
    refine W.widen (k := 600002) (n := 7302232) (by decide) (by decide) ?_
    exact lw_ret hx hb hr hlocks dL_law_1494
  by_cases cB : 9 < (xs 1)
  · skip
    refine lv_aload_n hx hb dL_law_1462 rfl (lv_at hl 3 rfl) ?_
    refine lv_aload_n hx hb dL_law_1463 rfl (lv_at hl 4 rfl) ?_
    refine lv_iload hx hb dL_law_1464 (lv_at hl 0 rfl) ?_
    refine lv_iconst (v := 1) hx hb dL_law_1466 (by decide) ?_
    refine lv_iadd hx hb dL_law_1467 ?_
    refine p_topI (v := 1) (by decide) ?_
    refine va_sld hx hb hX hbl hbA hS (show ¬ (_ ∨ _) by decide) dL_law_1468 ?_
    refine p_topI (v := (xs 1)) rfl ?_
    refine p_ji (wr := [((ma 0), .inr (10, [.int 0, .ref (ma 1), .int 0, .int 0, .ref (ma 4), .ref (ma 5), .ref (ma 6), .int 0, .int 0, .ref (ma 9), .ref (ma 10), .ref (ma 11), .ref (ma 12), .int 0, .ref (ma 14), .ref (ma 15), .int 0, .int 0, .ref (ma 18), .ref (ma 19), .ref (ma 20), .ref (ma 21), .ref (ma 22), .int 0, .ref (ma 24), .int 0, .ref (ma 26), .int 0, .int 0, .int 0, .int 0, .ref (ma 31), .ref (ma 32), .ref (ma 33), .ref (ma 34), .ref (ma 35), .int 0, .int 0, .ref (ma 38), .ref (ma 39), .ref (ma 40), .long 0])), ((ma 10), .inl (k 1, 220, .inl (mg 10))), ((ma 18), .inl (k 1, 160, .inl (mg 18))), ((ma 22), .inl (k 1, 1320, .inl (mg 22)))]) (va_runV (As := [.int (xs 1)]) (rest := []) ⟨hx, hb, hml, hown, hts⟩ (c_count_hi l D k _ qa (xs 1) cB) (cwV 1 hts lg_118 rfl rfl rfl (by decide +kernel) ⟨Nat.le_of_ble_eq_true rfl, Nat.le_of_ble_eq_true rfl⟩) (pV hK hN hP hD [0, 2, 6, 3, 4, 5, 1] rfl (by decide) rfl 0 rfl rfl) rfl rfl hl.1 rfl (lv_room (Nat.le_of_ble_eq_true rfl)) dL_law_1469 ⟨by decide, by decide⟩) hP hD hS hA [0, 2, 6, 3, 4, 5, 1] [7, 8, 9, 10] rfl rfl (by decide) (by decide) (fun rx13 ux11 H locs wx12 hP hD hS => ?_)
    have hx14 : rx13 = (-1) := wx12
    subst hx14
    have hP : va_P D vwCl [((ma 0), .inr (10, [.int 0, .ref (ma 1), .int 0, .int 0, .ref (ma 4), .ref (ma 5), .ref (ma 6), .int 0, .int 0, .ref (ma 9), .ref (ma 10), .ref (ma 11), .ref (ma 12), .int 0, .ref (ma 14), .ref (ma 15), .int 0, .int 0, .ref (ma 18), .ref (ma 19), .ref (ma 20), .ref (ma 21), .ref (ma 22), .int 0, .ref (ma 24), .int 0, .ref (ma 26), .int 0, .int 0, .int 0, .int 0, .ref (ma 31), .ref (ma 32), .ref (ma 33), .ref (ma 34), .ref (ma 35), .int 0, .int 0, .ref (ma 38), .ref (ma 39), .ref (ma 40), .long 0])), ((ma 10), .inl (k 1, 220, .inl (mg 10))), ((ma 18), .inl (k 1, 160, .inl (mg 18))), ((ma 22), .inl (k 1, 1320, .inl (mg 22)))] H := hP
    have hD : va_D A [((ma 0), .inr (10, [.int 0, .ref (ma 1), .int 0, .int 0, .ref (ma 4), .ref (ma 5), .ref (ma 6), .int 0, .int 0, .ref (ma 9), .ref (ma 10), .ref (ma 11), .ref (ma 12), .int 0, .ref (ma 14), .ref (ma 15), .int 0, .int 0, .ref (ma 18), .ref (ma 19), .ref (ma 20), .ref (ma 21), .ref (ma 22), .int 0, .ref (ma 24), .int 0, .ref (ma 26), .int 0, .int 0, .int 0, .int 0, .ref (ma 31), .ref (ma 32), .ref (ma 33), .ref (ma 34), .ref (ma 35), .int 0, .int 0, .ref (ma 38), .ref (ma 39), .ref (ma 40), .long 0])), ((ma 10), .inl (k 1, 220, .inl (mg 10))), ((ma 18), .inl (k 1, 160, .inl (mg 18))), ((ma 22), .inl (k 1, 1320, .inl (mg 22)))] := hD
    refine lv_aload_n hx hb dL_law_1472 rfl (lv_at hl 2 rfl) ?_
    refine lv_aload_n hx hb dL_law_1473 rfl (lv_at hl 4 rfl) ?_
    refine lv_iload hx hb dL_law_1474 (lv_at hl 0 rfl) ?_
    refine lv_iconst (v := 1) hx hb dL_law_1476 (by decide) ?_
    refine lv_iadd hx hb dL_law_1477 ?_
    refine p_topI (v := 1) (by decide) ?_
    refine va_sld hx hb hX hbl hbA hS (show ¬ (_ ∨ _) by decide) dL_law_1478 ?_
    refine p_topI (v := (xs 1)) rfl ?_
    refine p_ji (wr := [((ma 10), .inl (k 1, 220, .inl (mg 10))), ((ma 18), .inl (k 1, 160, .inl (mg 18))), ((ma 22), .inl (k 1, 1320, .inl (mg 22)))]) (va_runV (As := [.int (xs 1)]) (rest := [.int (-1)]) ⟨hx, hb, hml, hown, hts⟩ (c_m_count_hi l D k _ ma (xs 1) cB) (cwV 1 hts lg_119 rfl rfl rfl (by decide +kernel) ⟨Nat.le_of_ble_eq_true rfl, Nat.le_of_ble_eq_true rfl⟩) (pV hK hN hP hD [0] rfl (by decide) rfl 0 rfl rfl) rfl rfl hl.1 rfl (lv_room (Nat.le_of_ble_eq_true rfl)) dL_law_1479 ⟨by decide, by decide⟩) hP hD hS hA [0] [1, 2, 3] rfl rfl (by decide) (by decide) (fun rx17 ux15 H locs wx16 hP hD hS => ?_)
    have hx18 : rx17 = (-1) := wx16
    subst hx18
    have hP : va_P D vwCl [((ma 10), .inl (k 1, 220, .inl (mg 10))), ((ma 18), .inl (k 1, 160, .inl (mg 18))), ((ma 22), .inl (k 1, 1320, .inl (mg 22)))] H := hP
    have hD : va_D A [((ma 10), .inl (k 1, 220, .inl (mg 10))), ((ma 18), .inl (k 1, 160, .inl (mg 18))), ((ma 22), .inl (k 1, 1320, .inl (mg 22)))] := hD
    refine lv_icmp_eq (tgt := 1487) hx hb dL_law_1482 (by decide) (fun cx19 => ?_) (fun h9 => absurd (by decide) h9)
    refine lv_iinc (v := 7) (lv' := [(4, .int 7), (3, .ref out), (2, .ref (ma 0)), (1, .ref (qa 0)), (0, .ref b)]) hx hb dL_law_1487 hl (k := 0) rfl (by decide) (by decide) rfl (fun ls hl => ?_)
    refine lv_goto (tgt := 23) hx hb dL_law_1490 (by decide) ?_
    refine lv_iload hx hb dL_law_23 (lv_at hl 0 rfl) ?_
    refine lv_aload_n hx hb dL_law_25 rfl (lv_at hl 4 rfl) ?_
    refine va_slen hx hb hX hbl hbA hS dL_law_26 ?_
    refine p_topI (v := 7) (by decide) ?_
    refine lv_bipush (v := 7) hx hb dL_law_27 (by decide) ?_
    refine lv_isub hx hb dL_law_29 ?_
    refine p_topI (v := 0) (by decide) ?_
    refine lv_icmp_gt (tgt := 1493) hx hb dL_law_30 (by decide) (fun cx20 => ?_) (fun h9 => absurd (by decide) h9)
    refine lv_iconst (v := 1) hx hb dL_law_1493 (by decide) ?_
    refine va_forget (fun q hq => hAf _ (hS.2.2 q hq)) ?_
    refine W.widen (k := 600002) (n := 7302232) (by decide) (by decide) ?_
    exact lw_ret hx hb hr hlocks dL_law_1494
  rcases (show (xs 1) = 0 ∨ (xs 1) = 1 ∨ (xs 1) = 2 ∨ (xs 1) = 3 ∨ (xs 1) = 4 ∨ (xs 1) = 5 ∨ (xs 1) = 6 ∨ (xs 1) = 7 ∨ (xs 1) = 8 ∨ (xs 1) = 9 by revert cA cB; simp only [Int32.lt_iff_toInt_lt, ← Int32.toInt_inj, (by decide : (0 : Int32).toInt = 0), (by decide : (1 : Int32).toInt = 1), (by decide : (2 : Int32).toInt = 2), (by decide : (3 : Int32).toInt = 3), (by decide : (4 : Int32).toInt = 4), (by decide : (5 : Int32).toInt = 5), (by decide : (6 : Int32).toInt = 6), (by decide : (7 : Int32).toInt = 7), (by decide : (8 : Int32).toInt = 8), (by decide : (9 : Int32).toInt = 9)]; omega) with cC | cC | cC | cC | cC | cC | cC | cC | cC | cC
  · skip
    refine lv_aload_n hx hb dL_law_1462 rfl (lv_at hl 3 rfl) ?_
    refine lv_aload_n hx hb dL_law_1463 rfl (lv_at hl 4 rfl) ?_
    refine lv_iload hx hb dL_law_1464 (lv_at hl 0 rfl) ?_
    refine lv_iconst (v := 1) hx hb dL_law_1466 (by decide) ?_
    refine lv_iadd hx hb dL_law_1467 ?_
    refine p_topI (v := 1) (by decide) ?_
    refine va_sld hx hb hX hbl hbA hS (show ¬ (_ ∨ _) by decide) dL_law_1468 ?_
    refine p_topI (v := 0) cC ?_
    refine p_ji (wr := [((ma 0), .inr (10, [.int 0, .ref (ma 1), .int 0, .int 0, .ref (ma 4), .ref (ma 5), .ref (ma 6), .int 0, .int 0, .ref (ma 9), .ref (ma 10), .ref (ma 11), .ref (ma 12), .int 0, .ref (ma 14), .ref (ma 15), .int 0, .int 0, .ref (ma 18), .ref (ma 19), .ref (ma 20), .ref (ma 21), .ref (ma 22), .int 0, .ref (ma 24), .int 0, .ref (ma 26), .int 0, .int 0, .int 0, .int 0, .ref (ma 31), .ref (ma 32), .ref (ma 33), .ref (ma 34), .ref (ma 35), .int 0, .int 0, .ref (ma 38), .ref (ma 39), .ref (ma 40), .long 0])), ((ma 10), .inl (k 1, 220, .inl (mg 10))), ((ma 18), .inl (k 1, 160, .inl (mg 18))), ((ma 22), .inl (k 1, 1320, .inl (mg 22)))]) (va_runV (As := [.int 0]) (rest := []) ⟨hx, hb, hml, hown, hts⟩ (c_count_0 l D k _ qa) (cwV 1 hts lg_120 rfl rfl rfl (by decide +kernel) ⟨Nat.le_of_ble_eq_true rfl, Nat.le_of_ble_eq_true rfl⟩) (pV hK hN hP hD [0, 2, 6, 3, 4, 5, 1] rfl (by decide) rfl 0 rfl rfl) rfl rfl hl.1 rfl (lv_room (Nat.le_of_ble_eq_true rfl)) dL_law_1469 ⟨by decide, by decide⟩) hP hD hS hA [0, 2, 6, 3, 4, 5, 1] [7, 8, 9, 10] rfl rfl (by decide) (by decide) (fun rx23 ux21 H locs wx22 hP hD hS => ?_)
    have hx24 : rx23 = 0 := wx22
    subst hx24
    have hP : va_P D vwCl [((ma 0), .inr (10, [.int 0, .ref (ma 1), .int 0, .int 0, .ref (ma 4), .ref (ma 5), .ref (ma 6), .int 0, .int 0, .ref (ma 9), .ref (ma 10), .ref (ma 11), .ref (ma 12), .int 0, .ref (ma 14), .ref (ma 15), .int 0, .int 0, .ref (ma 18), .ref (ma 19), .ref (ma 20), .ref (ma 21), .ref (ma 22), .int 0, .ref (ma 24), .int 0, .ref (ma 26), .int 0, .int 0, .int 0, .int 0, .ref (ma 31), .ref (ma 32), .ref (ma 33), .ref (ma 34), .ref (ma 35), .int 0, .int 0, .ref (ma 38), .ref (ma 39), .ref (ma 40), .long 0])), ((ma 10), .inl (k 1, 220, .inl (mg 10))), ((ma 18), .inl (k 1, 160, .inl (mg 18))), ((ma 22), .inl (k 1, 1320, .inl (mg 22)))] H := hP
    have hD : va_D A [((ma 0), .inr (10, [.int 0, .ref (ma 1), .int 0, .int 0, .ref (ma 4), .ref (ma 5), .ref (ma 6), .int 0, .int 0, .ref (ma 9), .ref (ma 10), .ref (ma 11), .ref (ma 12), .int 0, .ref (ma 14), .ref (ma 15), .int 0, .int 0, .ref (ma 18), .ref (ma 19), .ref (ma 20), .ref (ma 21), .ref (ma 22), .int 0, .ref (ma 24), .int 0, .ref (ma 26), .int 0, .int 0, .int 0, .int 0, .ref (ma 31), .ref (ma 32), .ref (ma 33), .ref (ma 34), .ref (ma 35), .int 0, .int 0, .ref (ma 38), .ref (ma 39), .ref (ma 40), .long 0])), ((ma 10), .inl (k 1, 220, .inl (mg 10))), ((ma 18), .inl (k 1, 160, .inl (mg 18))), ((ma 22), .inl (k 1, 1320, .inl (mg 22)))] := hD
    refine lv_aload_n hx hb dL_law_1472 rfl (lv_at hl 2 rfl) ?_
    refine lv_aload_n hx hb dL_law_1473 rfl (lv_at hl 4 rfl) ?_
    refine lv_iload hx hb dL_law_1474 (lv_at hl 0 rfl) ?_
    refine lv_iconst (v := 1) hx hb dL_law_1476 (by decide) ?_
    refine lv_iadd hx hb dL_law_1477 ?_
    refine p_topI (v := 1) (by decide) ?_
    refine va_sld hx hb hX hbl hbA hS (show ¬ (_ ∨ _) by decide) dL_law_1478 ?_
    refine p_topI (v := 0) cC ?_
    refine p_ji (wr := []) (va_runV (As := [.int 0]) (rest := [.int 0]) ⟨hx, hb, hml, hown, hts⟩ (c_m_count_0 l D k _ ma mg hl0 hl1 hl2 hs0 hs19 hs26 hn0) (cwV 1 hts lg_121 rfl rfl rfl (by decide +kernel) ⟨Nat.le_of_ble_eq_true rfl, Nat.le_of_ble_eq_true rfl⟩) (pV hK hN hP hD [0, 3, 1, 2] rfl (by decide) rfl 0 rfl rfl) rfl rfl hl.1 rfl (lv_room (Nat.le_of_ble_eq_true rfl)) dL_law_1479 ⟨by decide, by decide⟩) hP hD hS hA [0, 3, 1, 2] [] rfl rfl (by decide) (by decide) (fun rx27 ux25 H locs wx26 hP hD hS => ?_)
    have hx28 : rx27 = 0 := wx26
    subst hx28
    have hP : va_P D vwCl [] H := hP
    have hD : va_D A [] := hD
    refine lv_icmp_eq (tgt := 1487) hx hb dL_law_1482 (by decide) (fun cx29 => ?_) (fun h9 => absurd (by decide) h9)
    refine lv_iinc (v := 7) (lv' := [(4, .int 7), (3, .ref out), (2, .ref (ma 0)), (1, .ref (qa 0)), (0, .ref b)]) hx hb dL_law_1487 hl (k := 0) rfl (by decide) (by decide) rfl (fun ls hl => ?_)
    refine lv_goto (tgt := 23) hx hb dL_law_1490 (by decide) ?_
    refine lv_iload hx hb dL_law_23 (lv_at hl 0 rfl) ?_
    refine lv_aload_n hx hb dL_law_25 rfl (lv_at hl 4 rfl) ?_
    refine va_slen hx hb hX hbl hbA hS dL_law_26 ?_
    refine p_topI (v := 7) (by decide) ?_
    refine lv_bipush (v := 7) hx hb dL_law_27 (by decide) ?_
    refine lv_isub hx hb dL_law_29 ?_
    refine p_topI (v := 0) (by decide) ?_
    refine lv_icmp_gt (tgt := 1493) hx hb dL_law_30 (by decide) (fun cx30 => ?_) (fun h9 => absurd (by decide) h9)
    refine lv_iconst (v := 1) hx hb dL_law_1493 (by decide) ?_
    refine va_forget (fun q hq => hAf _ (hS.2.2 q hq)) ?_
    refine W.widen (k := 600002) (n := 7302232) (by decide) (by decide) ?_
    exact lw_ret hx hb hr hlocks dL_law_1494
  · skip
    refine lv_aload_n hx hb dL_law_1462 rfl (lv_at hl 3 rfl) ?_
    refine lv_aload_n hx hb dL_law_1463 rfl (lv_at hl 4 rfl) ?_
    refine lv_iload hx hb dL_law_1464 (lv_at hl 0 rfl) ?_
    refine lv_iconst (v := 1) hx hb dL_law_1466 (by decide) ?_
    refine lv_iadd hx hb dL_law_1467 ?_
    refine p_topI (v := 1) (by decide) ?_
    refine va_sld hx hb hX hbl hbA hS (show ¬ (_ ∨ _) by decide) dL_law_1468 ?_
    refine p_topI (v := 1) cC ?_
    refine p_ji (wr := [((ma 0), .inr (10, [.int 0, .ref (ma 1), .int 0, .int 0, .ref (ma 4), .ref (ma 5), .ref (ma 6), .int 0, .int 0, .ref (ma 9), .ref (ma 10), .ref (ma 11), .ref (ma 12), .int 0, .ref (ma 14), .ref (ma 15), .int 0, .int 0, .ref (ma 18), .ref (ma 19), .ref (ma 20), .ref (ma 21), .ref (ma 22), .int 0, .ref (ma 24), .int 0, .ref (ma 26), .int 0, .int 0, .int 0, .int 0, .ref (ma 31), .ref (ma 32), .ref (ma 33), .ref (ma 34), .ref (ma 35), .int 0, .int 0, .ref (ma 38), .ref (ma 39), .ref (ma 40), .long 0])), ((ma 10), .inl (k 1, 220, .inl (mg 10))), ((ma 18), .inl (k 1, 160, .inl (mg 18))), ((ma 22), .inl (k 1, 1320, .inl (mg 22)))]) (va_runV (As := [.int 1]) (rest := []) ⟨hx, hb, hml, hown, hts⟩ (c_count_1 l D k _ qa) (cwV 1 hts lg_122 rfl rfl rfl (by decide +kernel) ⟨Nat.le_of_ble_eq_true rfl, Nat.le_of_ble_eq_true rfl⟩) (pV hK hN hP hD [0, 2, 6, 3, 4, 5, 1] rfl (by decide) rfl 0 rfl rfl) rfl rfl hl.1 rfl (lv_room (Nat.le_of_ble_eq_true rfl)) dL_law_1469 ⟨by decide, by decide⟩) hP hD hS hA [0, 2, 6, 3, 4, 5, 1] [7, 8, 9, 10] rfl rfl (by decide) (by decide) (fun rx33 ux31 H locs wx32 hP hD hS => ?_)
    have hx34 : rx33 = 0 := wx32
    subst hx34
    have hP : va_P D vwCl [((ma 0), .inr (10, [.int 0, .ref (ma 1), .int 0, .int 0, .ref (ma 4), .ref (ma 5), .ref (ma 6), .int 0, .int 0, .ref (ma 9), .ref (ma 10), .ref (ma 11), .ref (ma 12), .int 0, .ref (ma 14), .ref (ma 15), .int 0, .int 0, .ref (ma 18), .ref (ma 19), .ref (ma 20), .ref (ma 21), .ref (ma 22), .int 0, .ref (ma 24), .int 0, .ref (ma 26), .int 0, .int 0, .int 0, .int 0, .ref (ma 31), .ref (ma 32), .ref (ma 33), .ref (ma 34), .ref (ma 35), .int 0, .int 0, .ref (ma 38), .ref (ma 39), .ref (ma 40), .long 0])), ((ma 10), .inl (k 1, 220, .inl (mg 10))), ((ma 18), .inl (k 1, 160, .inl (mg 18))), ((ma 22), .inl (k 1, 1320, .inl (mg 22)))] H := hP
    have hD : va_D A [((ma 0), .inr (10, [.int 0, .ref (ma 1), .int 0, .int 0, .ref (ma 4), .ref (ma 5), .ref (ma 6), .int 0, .int 0, .ref (ma 9), .ref (ma 10), .ref (ma 11), .ref (ma 12), .int 0, .ref (ma 14), .ref (ma 15), .int 0, .int 0, .ref (ma 18), .ref (ma 19), .ref (ma 20), .ref (ma 21), .ref (ma 22), .int 0, .ref (ma 24), .int 0, .ref (ma 26), .int 0, .int 0, .int 0, .int 0, .ref (ma 31), .ref (ma 32), .ref (ma 33), .ref (ma 34), .ref (ma 35), .int 0, .int 0, .ref (ma 38), .ref (ma 39), .ref (ma 40), .long 0])), ((ma 10), .inl (k 1, 220, .inl (mg 10))), ((ma 18), .inl (k 1, 160, .inl (mg 18))), ((ma 22), .inl (k 1, 1320, .inl (mg 22)))] := hD
    refine lv_aload_n hx hb dL_law_1472 rfl (lv_at hl 2 rfl) ?_
    refine lv_aload_n hx hb dL_law_1473 rfl (lv_at hl 4 rfl) ?_
    refine lv_iload hx hb dL_law_1474 (lv_at hl 0 rfl) ?_
    refine lv_iconst (v := 1) hx hb dL_law_1476 (by decide) ?_
    refine lv_iadd hx hb dL_law_1477 ?_
    refine p_topI (v := 1) (by decide) ?_
    refine va_sld hx hb hX hbl hbA hS (show ¬ (_ ∨ _) by decide) dL_law_1478 ?_
    refine p_topI (v := 1) cC ?_
    refine p_ji (wr := []) (va_runV (As := [.int 1]) (rest := [.int 0]) ⟨hx, hb, hml, hown, hts⟩ (c_m_count_1 l D k _ ma mg hl0 hl1 hl2 hs0 hs19 hs26 hn0) (cwV 1 hts lg_123 rfl rfl rfl (by decide +kernel) ⟨Nat.le_of_ble_eq_true rfl, Nat.le_of_ble_eq_true rfl⟩) (pV hK hN hP hD [0, 3, 1, 2] rfl (by decide) rfl 0 rfl rfl) rfl rfl hl.1 rfl (lv_room (Nat.le_of_ble_eq_true rfl)) dL_law_1479 ⟨by decide, by decide⟩) hP hD hS hA [0, 3, 1, 2] [] rfl rfl (by decide) (by decide) (fun rx37 ux35 H locs wx36 hP hD hS => ?_)
    have hx38 : rx37 = 0 := wx36
    subst hx38
    have hP : va_P D vwCl [] H := hP
    have hD : va_D A [] := hD
    refine lv_icmp_eq (tgt := 1487) hx hb dL_law_1482 (by decide) (fun cx39 => ?_) (fun h9 => absurd (by decide) h9)
    refine lv_iinc (v := 7) (lv' := [(4, .int 7), (3, .ref out), (2, .ref (ma 0)), (1, .ref (qa 0)), (0, .ref b)]) hx hb dL_law_1487 hl (k := 0) rfl (by decide) (by decide) rfl (fun ls hl => ?_)
    refine lv_goto (tgt := 23) hx hb dL_law_1490 (by decide) ?_
    refine lv_iload hx hb dL_law_23 (lv_at hl 0 rfl) ?_
    refine lv_aload_n hx hb dL_law_25 rfl (lv_at hl 4 rfl) ?_
    refine va_slen hx hb hX hbl hbA hS dL_law_26 ?_
    refine p_topI (v := 7) (by decide) ?_
    refine lv_bipush (v := 7) hx hb dL_law_27 (by decide) ?_
    refine lv_isub hx hb dL_law_29 ?_
    refine p_topI (v := 0) (by decide) ?_
    refine lv_icmp_gt (tgt := 1493) hx hb dL_law_30 (by decide) (fun cx40 => ?_) (fun h9 => absurd (by decide) h9)
    refine lv_iconst (v := 1) hx hb dL_law_1493 (by decide) ?_
    refine va_forget (fun q hq => hAf _ (hS.2.2 q hq)) ?_
    refine W.widen (k := 600002) (n := 7302232) (by decide) (by decide) ?_
    exact lw_ret hx hb hr hlocks dL_law_1494
  · skip
    refine lv_aload_n hx hb dL_law_1462 rfl (lv_at hl 3 rfl) ?_
    refine lv_aload_n hx hb dL_law_1463 rfl (lv_at hl 4 rfl) ?_
    refine lv_iload hx hb dL_law_1464 (lv_at hl 0 rfl) ?_
    refine lv_iconst (v := 1) hx hb dL_law_1466 (by decide) ?_
    refine lv_iadd hx hb dL_law_1467 ?_
    refine p_topI (v := 1) (by decide) ?_
    refine va_sld hx hb hX hbl hbA hS (show ¬ (_ ∨ _) by decide) dL_law_1468 ?_
    refine p_topI (v := 2) cC ?_
    refine p_ji (wr := [((ma 0), .inr (10, [.int 0, .ref (ma 1), .int 0, .int 0, .ref (ma 4), .ref (ma 5), .ref (ma 6), .int 0, .int 0, .ref (ma 9), .ref (ma 10), .ref (ma 11), .ref (ma 12), .int 0, .ref (ma 14), .ref (ma 15), .int 0, .int 0, .ref (ma 18), .ref (ma 19), .ref (ma 20), .ref (ma 21), .ref (ma 22), .int 0, .ref (ma 24), .int 0, .ref (ma 26), .int 0, .int 0, .int 0, .int 0, .ref (ma 31), .ref (ma 32), .ref (ma 33), .ref (ma 34), .ref (ma 35), .int 0, .int 0, .ref (ma 38), .ref (ma 39), .ref (ma 40), .long 0])), ((ma 10), .inl (k 1, 220, .inl (mg 10))), ((ma 18), .inl (k 1, 160, .inl (mg 18))), ((ma 22), .inl (k 1, 1320, .inl (mg 22)))]) (va_runV (As := [.int 2]) (rest := []) ⟨hx, hb, hml, hown, hts⟩ (c_count_2 l D k _ qa) (cwV 1 hts lg_124 rfl rfl rfl (by decide +kernel) ⟨Nat.le_of_ble_eq_true rfl, Nat.le_of_ble_eq_true rfl⟩) (pV hK hN hP hD [0, 2, 6, 3, 4, 5, 1] rfl (by decide) rfl 0 rfl rfl) rfl rfl hl.1 rfl (lv_room (Nat.le_of_ble_eq_true rfl)) dL_law_1469 ⟨by decide, by decide⟩) hP hD hS hA [0, 2, 6, 3, 4, 5, 1] [7, 8, 9, 10] rfl rfl (by decide) (by decide) (fun rx43 ux41 H locs wx42 hP hD hS => ?_)
    have hx44 : rx43 = 0 := wx42
    subst hx44
    have hP : va_P D vwCl [((ma 0), .inr (10, [.int 0, .ref (ma 1), .int 0, .int 0, .ref (ma 4), .ref (ma 5), .ref (ma 6), .int 0, .int 0, .ref (ma 9), .ref (ma 10), .ref (ma 11), .ref (ma 12), .int 0, .ref (ma 14), .ref (ma 15), .int 0, .int 0, .ref (ma 18), .ref (ma 19), .ref (ma 20), .ref (ma 21), .ref (ma 22), .int 0, .ref (ma 24), .int 0, .ref (ma 26), .int 0, .int 0, .int 0, .int 0, .ref (ma 31), .ref (ma 32), .ref (ma 33), .ref (ma 34), .ref (ma 35), .int 0, .int 0, .ref (ma 38), .ref (ma 39), .ref (ma 40), .long 0])), ((ma 10), .inl (k 1, 220, .inl (mg 10))), ((ma 18), .inl (k 1, 160, .inl (mg 18))), ((ma 22), .inl (k 1, 1320, .inl (mg 22)))] H := hP
    have hD : va_D A [((ma 0), .inr (10, [.int 0, .ref (ma 1), .int 0, .int 0, .ref (ma 4), .ref (ma 5), .ref (ma 6), .int 0, .int 0, .ref (ma 9), .ref (ma 10), .ref (ma 11), .ref (ma 12), .int 0, .ref (ma 14), .ref (ma 15), .int 0, .int 0, .ref (ma 18), .ref (ma 19), .ref (ma 20), .ref (ma 21), .ref (ma 22), .int 0, .ref (ma 24), .int 0, .ref (ma 26), .int 0, .int 0, .int 0, .int 0, .ref (ma 31), .ref (ma 32), .ref (ma 33), .ref (ma 34), .ref (ma 35), .int 0, .int 0, .ref (ma 38), .ref (ma 39), .ref (ma 40), .long 0])), ((ma 10), .inl (k 1, 220, .inl (mg 10))), ((ma 18), .inl (k 1, 160, .inl (mg 18))), ((ma 22), .inl (k 1, 1320, .inl (mg 22)))] := hD
    refine lv_aload_n hx hb dL_law_1472 rfl (lv_at hl 2 rfl) ?_
    refine lv_aload_n hx hb dL_law_1473 rfl (lv_at hl 4 rfl) ?_
    refine lv_iload hx hb dL_law_1474 (lv_at hl 0 rfl) ?_
    refine lv_iconst (v := 1) hx hb dL_law_1476 (by decide) ?_
    refine lv_iadd hx hb dL_law_1477 ?_
    refine p_topI (v := 1) (by decide) ?_
    refine va_sld hx hb hX hbl hbA hS (show ¬ (_ ∨ _) by decide) dL_law_1478 ?_
    refine p_topI (v := 2) cC ?_
    refine p_ji (wr := []) (va_runV (As := [.int 2]) (rest := [.int 0]) ⟨hx, hb, hml, hown, hts⟩ (c_m_count_2 l D k _ ma mg hl0 hl1 hl2 hs0 hs19 hs26 hn0) (cwV 1 hts lg_125 rfl rfl rfl (by decide +kernel) ⟨Nat.le_of_ble_eq_true rfl, Nat.le_of_ble_eq_true rfl⟩) (pV hK hN hP hD [0, 3, 1, 2] rfl (by decide) rfl 0 rfl rfl) rfl rfl hl.1 rfl (lv_room (Nat.le_of_ble_eq_true rfl)) dL_law_1479 ⟨by decide, by decide⟩) hP hD hS hA [0, 3, 1, 2] [] rfl rfl (by decide) (by decide) (fun rx47 ux45 H locs wx46 hP hD hS => ?_)
    have hx48 : rx47 = 0 := wx46
    subst hx48
    have hP : va_P D vwCl [] H := hP
    have hD : va_D A [] := hD
    refine lv_icmp_eq (tgt := 1487) hx hb dL_law_1482 (by decide) (fun cx49 => ?_) (fun h9 => absurd (by decide) h9)
    refine lv_iinc (v := 7) (lv' := [(4, .int 7), (3, .ref out), (2, .ref (ma 0)), (1, .ref (qa 0)), (0, .ref b)]) hx hb dL_law_1487 hl (k := 0) rfl (by decide) (by decide) rfl (fun ls hl => ?_)
    refine lv_goto (tgt := 23) hx hb dL_law_1490 (by decide) ?_
    refine lv_iload hx hb dL_law_23 (lv_at hl 0 rfl) ?_
    refine lv_aload_n hx hb dL_law_25 rfl (lv_at hl 4 rfl) ?_
    refine va_slen hx hb hX hbl hbA hS dL_law_26 ?_
    refine p_topI (v := 7) (by decide) ?_
    refine lv_bipush (v := 7) hx hb dL_law_27 (by decide) ?_
    refine lv_isub hx hb dL_law_29 ?_
    refine p_topI (v := 0) (by decide) ?_
    refine lv_icmp_gt (tgt := 1493) hx hb dL_law_30 (by decide) (fun cx50 => ?_) (fun h9 => absurd (by decide) h9)
    refine lv_iconst (v := 1) hx hb dL_law_1493 (by decide) ?_
    refine va_forget (fun q hq => hAf _ (hS.2.2 q hq)) ?_
    refine W.widen (k := 600002) (n := 7302232) (by decide) (by decide) ?_
    exact lw_ret hx hb hr hlocks dL_law_1494
  · skip
    refine lv_aload_n hx hb dL_law_1462 rfl (lv_at hl 3 rfl) ?_
    refine lv_aload_n hx hb dL_law_1463 rfl (lv_at hl 4 rfl) ?_
    refine lv_iload hx hb dL_law_1464 (lv_at hl 0 rfl) ?_
    refine lv_iconst (v := 1) hx hb dL_law_1466 (by decide) ?_
    refine lv_iadd hx hb dL_law_1467 ?_
    refine p_topI (v := 1) (by decide) ?_
    refine va_sld hx hb hX hbl hbA hS (show ¬ (_ ∨ _) by decide) dL_law_1468 ?_
    refine p_topI (v := 3) cC ?_
    refine p_ji (wr := [((ma 0), .inr (10, [.int 0, .ref (ma 1), .int 0, .int 0, .ref (ma 4), .ref (ma 5), .ref (ma 6), .int 0, .int 0, .ref (ma 9), .ref (ma 10), .ref (ma 11), .ref (ma 12), .int 0, .ref (ma 14), .ref (ma 15), .int 0, .int 0, .ref (ma 18), .ref (ma 19), .ref (ma 20), .ref (ma 21), .ref (ma 22), .int 0, .ref (ma 24), .int 0, .ref (ma 26), .int 0, .int 0, .int 0, .int 0, .ref (ma 31), .ref (ma 32), .ref (ma 33), .ref (ma 34), .ref (ma 35), .int 0, .int 0, .ref (ma 38), .ref (ma 39), .ref (ma 40), .long 0])), ((ma 10), .inl (k 1, 220, .inl (mg 10))), ((ma 18), .inl (k 1, 160, .inl (mg 18))), ((ma 22), .inl (k 1, 1320, .inl (mg 22)))]) (va_runV (As := [.int 3]) (rest := []) ⟨hx, hb, hml, hown, hts⟩ (c_count_3 l D k _ qa) (cwV 1 hts lg_126 rfl rfl rfl (by decide +kernel) ⟨Nat.le_of_ble_eq_true rfl, Nat.le_of_ble_eq_true rfl⟩) (pV hK hN hP hD [0, 2, 6, 3, 4, 5, 1] rfl (by decide) rfl 0 rfl rfl) rfl rfl hl.1 rfl (lv_room (Nat.le_of_ble_eq_true rfl)) dL_law_1469 ⟨by decide, by decide⟩) hP hD hS hA [0, 2, 6, 3, 4, 5, 1] [7, 8, 9, 10] rfl rfl (by decide) (by decide) (fun rx53 ux51 H locs wx52 hP hD hS => ?_)
    have hx54 : rx53 = 0 := wx52
    subst hx54
    have hP : va_P D vwCl [((ma 0), .inr (10, [.int 0, .ref (ma 1), .int 0, .int 0, .ref (ma 4), .ref (ma 5), .ref (ma 6), .int 0, .int 0, .ref (ma 9), .ref (ma 10), .ref (ma 11), .ref (ma 12), .int 0, .ref (ma 14), .ref (ma 15), .int 0, .int 0, .ref (ma 18), .ref (ma 19), .ref (ma 20), .ref (ma 21), .ref (ma 22), .int 0, .ref (ma 24), .int 0, .ref (ma 26), .int 0, .int 0, .int 0, .int 0, .ref (ma 31), .ref (ma 32), .ref (ma 33), .ref (ma 34), .ref (ma 35), .int 0, .int 0, .ref (ma 38), .ref (ma 39), .ref (ma 40), .long 0])), ((ma 10), .inl (k 1, 220, .inl (mg 10))), ((ma 18), .inl (k 1, 160, .inl (mg 18))), ((ma 22), .inl (k 1, 1320, .inl (mg 22)))] H := hP
    have hD : va_D A [((ma 0), .inr (10, [.int 0, .ref (ma 1), .int 0, .int 0, .ref (ma 4), .ref (ma 5), .ref (ma 6), .int 0, .int 0, .ref (ma 9), .ref (ma 10), .ref (ma 11), .ref (ma 12), .int 0, .ref (ma 14), .ref (ma 15), .int 0, .int 0, .ref (ma 18), .ref (ma 19), .ref (ma 20), .ref (ma 21), .ref (ma 22), .int 0, .ref (ma 24), .int 0, .ref (ma 26), .int 0, .int 0, .int 0, .int 0, .ref (ma 31), .ref (ma 32), .ref (ma 33), .ref (ma 34), .ref (ma 35), .int 0, .int 0, .ref (ma 38), .ref (ma 39), .ref (ma 40), .long 0])), ((ma 10), .inl (k 1, 220, .inl (mg 10))), ((ma 18), .inl (k 1, 160, .inl (mg 18))), ((ma 22), .inl (k 1, 1320, .inl (mg 22)))] := hD
    refine lv_aload_n hx hb dL_law_1472 rfl (lv_at hl 2 rfl) ?_
    refine lv_aload_n hx hb dL_law_1473 rfl (lv_at hl 4 rfl) ?_
    refine lv_iload hx hb dL_law_1474 (lv_at hl 0 rfl) ?_
    refine lv_iconst (v := 1) hx hb dL_law_1476 (by decide) ?_
    refine lv_iadd hx hb dL_law_1477 ?_
    refine p_topI (v := 1) (by decide) ?_
    refine va_sld hx hb hX hbl hbA hS (show ¬ (_ ∨ _) by decide) dL_law_1478 ?_
    refine p_topI (v := 3) cC ?_
    refine p_ji (wr := []) (va_runV (As := [.int 3]) (rest := [.int 0]) ⟨hx, hb, hml, hown, hts⟩ (c_m_count_3 l D k _ ma mg hl0 hl1 hl2 hs0 hs19 hs26 hn0) (cwV 1 hts lg_127 rfl rfl rfl (by decide +kernel) ⟨Nat.le_of_ble_eq_true rfl, Nat.le_of_ble_eq_true rfl⟩) (pV hK hN hP hD [0, 3, 1, 2] rfl (by decide) rfl 0 rfl rfl) rfl rfl hl.1 rfl (lv_room (Nat.le_of_ble_eq_true rfl)) dL_law_1479 ⟨by decide, by decide⟩) hP hD hS hA [0, 3, 1, 2] [] rfl rfl (by decide) (by decide) (fun rx57 ux55 H locs wx56 hP hD hS => ?_)
    have hx58 : rx57 = 0 := wx56
    subst hx58
    have hP : va_P D vwCl [] H := hP
    have hD : va_D A [] := hD
    refine lv_icmp_eq (tgt := 1487) hx hb dL_law_1482 (by decide) (fun cx59 => ?_) (fun h9 => absurd (by decide) h9)
    refine lv_iinc (v := 7) (lv' := [(4, .int 7), (3, .ref out), (2, .ref (ma 0)), (1, .ref (qa 0)), (0, .ref b)]) hx hb dL_law_1487 hl (k := 0) rfl (by decide) (by decide) rfl (fun ls hl => ?_)
    refine lv_goto (tgt := 23) hx hb dL_law_1490 (by decide) ?_
    refine lv_iload hx hb dL_law_23 (lv_at hl 0 rfl) ?_
    refine lv_aload_n hx hb dL_law_25 rfl (lv_at hl 4 rfl) ?_
    refine va_slen hx hb hX hbl hbA hS dL_law_26 ?_
    refine p_topI (v := 7) (by decide) ?_
    refine lv_bipush (v := 7) hx hb dL_law_27 (by decide) ?_
    refine lv_isub hx hb dL_law_29 ?_
    refine p_topI (v := 0) (by decide) ?_
    refine lv_icmp_gt (tgt := 1493) hx hb dL_law_30 (by decide) (fun cx60 => ?_) (fun h9 => absurd (by decide) h9)
    refine lv_iconst (v := 1) hx hb dL_law_1493 (by decide) ?_
    refine va_forget (fun q hq => hAf _ (hS.2.2 q hq)) ?_
    refine W.widen (k := 600002) (n := 7302232) (by decide) (by decide) ?_
    exact lw_ret hx hb hr hlocks dL_law_1494
  · skip
    refine lv_aload_n hx hb dL_law_1462 rfl (lv_at hl 3 rfl) ?_
    refine lv_aload_n hx hb dL_law_1463 rfl (lv_at hl 4 rfl) ?_
    refine lv_iload hx hb dL_law_1464 (lv_at hl 0 rfl) ?_
    refine lv_iconst (v := 1) hx hb dL_law_1466 (by decide) ?_
    refine lv_iadd hx hb dL_law_1467 ?_
    refine p_topI (v := 1) (by decide) ?_
    refine va_sld hx hb hX hbl hbA hS (show ¬ (_ ∨ _) by decide) dL_law_1468 ?_
    refine p_topI (v := 4) cC ?_
    refine p_ji (wr := [((ma 0), .inr (10, [.int 0, .ref (ma 1), .int 0, .int 0, .ref (ma 4), .ref (ma 5), .ref (ma 6), .int 0, .int 0, .ref (ma 9), .ref (ma 10), .ref (ma 11), .ref (ma 12), .int 0, .ref (ma 14), .ref (ma 15), .int 0, .int 0, .ref (ma 18), .ref (ma 19), .ref (ma 20), .ref (ma 21), .ref (ma 22), .int 0, .ref (ma 24), .int 0, .ref (ma 26), .int 0, .int 0, .int 0, .int 0, .ref (ma 31), .ref (ma 32), .ref (ma 33), .ref (ma 34), .ref (ma 35), .int 0, .int 0, .ref (ma 38), .ref (ma 39), .ref (ma 40), .long 0])), ((ma 10), .inl (k 1, 220, .inl (mg 10))), ((ma 18), .inl (k 1, 160, .inl (mg 18))), ((ma 22), .inl (k 1, 1320, .inl (mg 22)))]) (va_runV (As := [.int 4]) (rest := []) ⟨hx, hb, hml, hown, hts⟩ (c_count_4 l D k _ qa) (cwV 1 hts lg_128 rfl rfl rfl (by decide +kernel) ⟨Nat.le_of_ble_eq_true rfl, Nat.le_of_ble_eq_true rfl⟩) (pV hK hN hP hD [0, 2, 6, 3, 4, 5, 1] rfl (by decide) rfl 0 rfl rfl) rfl rfl hl.1 rfl (lv_room (Nat.le_of_ble_eq_true rfl)) dL_law_1469 ⟨by decide, by decide⟩) hP hD hS hA [0, 2, 6, 3, 4, 5, 1] [7, 8, 9, 10] rfl rfl (by decide) (by decide) (fun rx63 ux61 H locs wx62 hP hD hS => ?_)
    have hx64 : rx63 = 0 := wx62
    subst hx64
    have hP : va_P D vwCl [((ma 0), .inr (10, [.int 0, .ref (ma 1), .int 0, .int 0, .ref (ma 4), .ref (ma 5), .ref (ma 6), .int 0, .int 0, .ref (ma 9), .ref (ma 10), .ref (ma 11), .ref (ma 12), .int 0, .ref (ma 14), .ref (ma 15), .int 0, .int 0, .ref (ma 18), .ref (ma 19), .ref (ma 20), .ref (ma 21), .ref (ma 22), .int 0, .ref (ma 24), .int 0, .ref (ma 26), .int 0, .int 0, .int 0, .int 0, .ref (ma 31), .ref (ma 32), .ref (ma 33), .ref (ma 34), .ref (ma 35), .int 0, .int 0, .ref (ma 38), .ref (ma 39), .ref (ma 40), .long 0])), ((ma 10), .inl (k 1, 220, .inl (mg 10))), ((ma 18), .inl (k 1, 160, .inl (mg 18))), ((ma 22), .inl (k 1, 1320, .inl (mg 22)))] H := hP
    have hD : va_D A [((ma 0), .inr (10, [.int 0, .ref (ma 1), .int 0, .int 0, .ref (ma 4), .ref (ma 5), .ref (ma 6), .int 0, .int 0, .ref (ma 9), .ref (ma 10), .ref (ma 11), .ref (ma 12), .int 0, .ref (ma 14), .ref (ma 15), .int 0, .int 0, .ref (ma 18), .ref (ma 19), .ref (ma 20), .ref (ma 21), .ref (ma 22), .int 0, .ref (ma 24), .int 0, .ref (ma 26), .int 0, .int 0, .int 0, .int 0, .ref (ma 31), .ref (ma 32), .ref (ma 33), .ref (ma 34), .ref (ma 35), .int 0, .int 0, .ref (ma 38), .ref (ma 39), .ref (ma 40), .long 0])), ((ma 10), .inl (k 1, 220, .inl (mg 10))), ((ma 18), .inl (k 1, 160, .inl (mg 18))), ((ma 22), .inl (k 1, 1320, .inl (mg 22)))] := hD
    refine lv_aload_n hx hb dL_law_1472 rfl (lv_at hl 2 rfl) ?_
    refine lv_aload_n hx hb dL_law_1473 rfl (lv_at hl 4 rfl) ?_
    refine lv_iload hx hb dL_law_1474 (lv_at hl 0 rfl) ?_
    refine lv_iconst (v := 1) hx hb dL_law_1476 (by decide) ?_
    refine lv_iadd hx hb dL_law_1477 ?_
    refine p_topI (v := 1) (by decide) ?_
    refine va_sld hx hb hX hbl hbA hS (show ¬ (_ ∨ _) by decide) dL_law_1478 ?_
    refine p_topI (v := 4) cC ?_
    refine p_ji (wr := []) (va_runV (As := [.int 4]) (rest := [.int 0]) ⟨hx, hb, hml, hown, hts⟩ (c_m_count_4 l D k _ ma mg hl0 hl1 hl2 hs0 hs19 hs26 hn0) (cwV 1 hts lg_129 rfl rfl rfl (by decide +kernel) ⟨Nat.le_of_ble_eq_true rfl, Nat.le_of_ble_eq_true rfl⟩) (pV hK hN hP hD [0, 3, 1, 2] rfl (by decide) rfl 0 rfl rfl) rfl rfl hl.1 rfl (lv_room (Nat.le_of_ble_eq_true rfl)) dL_law_1479 ⟨by decide, by decide⟩) hP hD hS hA [0, 3, 1, 2] [] rfl rfl (by decide) (by decide) (fun rx67 ux65 H locs wx66 hP hD hS => ?_)
    have hx68 : rx67 = 0 := wx66
    subst hx68
    have hP : va_P D vwCl [] H := hP
    have hD : va_D A [] := hD
    refine lv_icmp_eq (tgt := 1487) hx hb dL_law_1482 (by decide) (fun cx69 => ?_) (fun h9 => absurd (by decide) h9)
    refine lv_iinc (v := 7) (lv' := [(4, .int 7), (3, .ref out), (2, .ref (ma 0)), (1, .ref (qa 0)), (0, .ref b)]) hx hb dL_law_1487 hl (k := 0) rfl (by decide) (by decide) rfl (fun ls hl => ?_)
    refine lv_goto (tgt := 23) hx hb dL_law_1490 (by decide) ?_
    refine lv_iload hx hb dL_law_23 (lv_at hl 0 rfl) ?_
    refine lv_aload_n hx hb dL_law_25 rfl (lv_at hl 4 rfl) ?_
    refine va_slen hx hb hX hbl hbA hS dL_law_26 ?_
    refine p_topI (v := 7) (by decide) ?_
    refine lv_bipush (v := 7) hx hb dL_law_27 (by decide) ?_
    refine lv_isub hx hb dL_law_29 ?_
    refine p_topI (v := 0) (by decide) ?_
    refine lv_icmp_gt (tgt := 1493) hx hb dL_law_30 (by decide) (fun cx70 => ?_) (fun h9 => absurd (by decide) h9)
    refine lv_iconst (v := 1) hx hb dL_law_1493 (by decide) ?_
    refine va_forget (fun q hq => hAf _ (hS.2.2 q hq)) ?_
    refine W.widen (k := 600002) (n := 7302232) (by decide) (by decide) ?_
    exact lw_ret hx hb hr hlocks dL_law_1494
  · skip
    refine lv_aload_n hx hb dL_law_1462 rfl (lv_at hl 3 rfl) ?_
    refine lv_aload_n hx hb dL_law_1463 rfl (lv_at hl 4 rfl) ?_
    refine lv_iload hx hb dL_law_1464 (lv_at hl 0 rfl) ?_
    refine lv_iconst (v := 1) hx hb dL_law_1466 (by decide) ?_
    refine lv_iadd hx hb dL_law_1467 ?_
    refine p_topI (v := 1) (by decide) ?_
    refine va_sld hx hb hX hbl hbA hS (show ¬ (_ ∨ _) by decide) dL_law_1468 ?_
    refine p_topI (v := 5) cC ?_
    refine p_ji (wr := [((ma 0), .inr (10, [.int 0, .ref (ma 1), .int 0, .int 0, .ref (ma 4), .ref (ma 5), .ref (ma 6), .int 0, .int 0, .ref (ma 9), .ref (ma 10), .ref (ma 11), .ref (ma 12), .int 0, .ref (ma 14), .ref (ma 15), .int 0, .int 0, .ref (ma 18), .ref (ma 19), .ref (ma 20), .ref (ma 21), .ref (ma 22), .int 0, .ref (ma 24), .int 0, .ref (ma 26), .int 0, .int 0, .int 0, .int 0, .ref (ma 31), .ref (ma 32), .ref (ma 33), .ref (ma 34), .ref (ma 35), .int 0, .int 0, .ref (ma 38), .ref (ma 39), .ref (ma 40), .long 0])), ((ma 10), .inl (k 1, 220, .inl (mg 10))), ((ma 18), .inl (k 1, 160, .inl (mg 18))), ((ma 22), .inl (k 1, 1320, .inl (mg 22)))]) (va_runV (As := [.int 5]) (rest := []) ⟨hx, hb, hml, hown, hts⟩ (c_count_5 l D k _ qa) (cwV 1 hts lg_130 rfl rfl rfl (by decide +kernel) ⟨Nat.le_of_ble_eq_true rfl, Nat.le_of_ble_eq_true rfl⟩) (pV hK hN hP hD [0, 2, 6, 3, 4, 5, 1] rfl (by decide) rfl 0 rfl rfl) rfl rfl hl.1 rfl (lv_room (Nat.le_of_ble_eq_true rfl)) dL_law_1469 ⟨by decide, by decide⟩) hP hD hS hA [0, 2, 6, 3, 4, 5, 1] [7, 8, 9, 10] rfl rfl (by decide) (by decide) (fun rx73 ux71 H locs wx72 hP hD hS => ?_)
    have hx74 : rx73 = (-1) := wx72
    subst hx74
    have hP : va_P D vwCl [((ma 0), .inr (10, [.int 0, .ref (ma 1), .int 0, .int 0, .ref (ma 4), .ref (ma 5), .ref (ma 6), .int 0, .int 0, .ref (ma 9), .ref (ma 10), .ref (ma 11), .ref (ma 12), .int 0, .ref (ma 14), .ref (ma 15), .int 0, .int 0, .ref (ma 18), .ref (ma 19), .ref (ma 20), .ref (ma 21), .ref (ma 22), .int 0, .ref (ma 24), .int 0, .ref (ma 26), .int 0, .int 0, .int 0, .int 0, .ref (ma 31), .ref (ma 32), .ref (ma 33), .ref (ma 34), .ref (ma 35), .int 0, .int 0, .ref (ma 38), .ref (ma 39), .ref (ma 40), .long 0])), ((ma 10), .inl (k 1, 220, .inl (mg 10))), ((ma 18), .inl (k 1, 160, .inl (mg 18))), ((ma 22), .inl (k 1, 1320, .inl (mg 22)))] H := hP
    have hD : va_D A [((ma 0), .inr (10, [.int 0, .ref (ma 1), .int 0, .int 0, .ref (ma 4), .ref (ma 5), .ref (ma 6), .int 0, .int 0, .ref (ma 9), .ref (ma 10), .ref (ma 11), .ref (ma 12), .int 0, .ref (ma 14), .ref (ma 15), .int 0, .int 0, .ref (ma 18), .ref (ma 19), .ref (ma 20), .ref (ma 21), .ref (ma 22), .int 0, .ref (ma 24), .int 0, .ref (ma 26), .int 0, .int 0, .int 0, .int 0, .ref (ma 31), .ref (ma 32), .ref (ma 33), .ref (ma 34), .ref (ma 35), .int 0, .int 0, .ref (ma 38), .ref (ma 39), .ref (ma 40), .long 0])), ((ma 10), .inl (k 1, 220, .inl (mg 10))), ((ma 18), .inl (k 1, 160, .inl (mg 18))), ((ma 22), .inl (k 1, 1320, .inl (mg 22)))] := hD
    refine lv_aload_n hx hb dL_law_1472 rfl (lv_at hl 2 rfl) ?_
    refine lv_aload_n hx hb dL_law_1473 rfl (lv_at hl 4 rfl) ?_
    refine lv_iload hx hb dL_law_1474 (lv_at hl 0 rfl) ?_
    refine lv_iconst (v := 1) hx hb dL_law_1476 (by decide) ?_
    refine lv_iadd hx hb dL_law_1477 ?_
    refine p_topI (v := 1) (by decide) ?_
    refine va_sld hx hb hX hbl hbA hS (show ¬ (_ ∨ _) by decide) dL_law_1478 ?_
    refine p_topI (v := 5) cC ?_
    refine p_ji (wr := []) (va_runV (As := [.int 5]) (rest := [.int (-1)]) ⟨hx, hb, hml, hown, hts⟩ (c_m_count_5 l D k _ ma mg hl0 hl1 hl2 hs0 hs19 hs26 hn0) (cwV 1 hts lg_131 rfl rfl rfl (by decide +kernel) ⟨Nat.le_of_ble_eq_true rfl, Nat.le_of_ble_eq_true rfl⟩) (pV hK hN hP hD [0, 3, 1, 2] rfl (by decide) rfl 0 rfl rfl) rfl rfl hl.1 rfl (lv_room (Nat.le_of_ble_eq_true rfl)) dL_law_1479 ⟨by decide, by decide⟩) hP hD hS hA [0, 3, 1, 2] [] rfl rfl (by decide) (by decide) (fun rx77 ux75 H locs wx76 hP hD hS => ?_)
    have hx78 : rx77 = (-1) := wx76
    subst hx78
    have hP : va_P D vwCl [] H := hP
    have hD : va_D A [] := hD
    refine lv_icmp_eq (tgt := 1487) hx hb dL_law_1482 (by decide) (fun cx79 => ?_) (fun h9 => absurd (by decide) h9)
    refine lv_iinc (v := 7) (lv' := [(4, .int 7), (3, .ref out), (2, .ref (ma 0)), (1, .ref (qa 0)), (0, .ref b)]) hx hb dL_law_1487 hl (k := 0) rfl (by decide) (by decide) rfl (fun ls hl => ?_)
    refine lv_goto (tgt := 23) hx hb dL_law_1490 (by decide) ?_
    refine lv_iload hx hb dL_law_23 (lv_at hl 0 rfl) ?_
    refine lv_aload_n hx hb dL_law_25 rfl (lv_at hl 4 rfl) ?_
    refine va_slen hx hb hX hbl hbA hS dL_law_26 ?_
    refine p_topI (v := 7) (by decide) ?_
    refine lv_bipush (v := 7) hx hb dL_law_27 (by decide) ?_
    refine lv_isub hx hb dL_law_29 ?_
    refine p_topI (v := 0) (by decide) ?_
    refine lv_icmp_gt (tgt := 1493) hx hb dL_law_30 (by decide) (fun cx80 => ?_) (fun h9 => absurd (by decide) h9)
    refine lv_iconst (v := 1) hx hb dL_law_1493 (by decide) ?_
    refine va_forget (fun q hq => hAf _ (hS.2.2 q hq)) ?_
    refine W.widen (k := 600002) (n := 7302232) (by decide) (by decide) ?_
    exact lw_ret hx hb hr hlocks dL_law_1494
  · skip
    refine lv_aload_n hx hb dL_law_1462 rfl (lv_at hl 3 rfl) ?_
    refine lv_aload_n hx hb dL_law_1463 rfl (lv_at hl 4 rfl) ?_
    refine lv_iload hx hb dL_law_1464 (lv_at hl 0 rfl) ?_
    refine lv_iconst (v := 1) hx hb dL_law_1466 (by decide) ?_
    refine lv_iadd hx hb dL_law_1467 ?_
    refine p_topI (v := 1) (by decide) ?_
    refine va_sld hx hb hX hbl hbA hS (show ¬ (_ ∨ _) by decide) dL_law_1468 ?_
    refine p_topI (v := 6) cC ?_
    refine p_ji (wr := [((ma 0), .inr (10, [.int 0, .ref (ma 1), .int 0, .int 0, .ref (ma 4), .ref (ma 5), .ref (ma 6), .int 0, .int 0, .ref (ma 9), .ref (ma 10), .ref (ma 11), .ref (ma 12), .int 0, .ref (ma 14), .ref (ma 15), .int 0, .int 0, .ref (ma 18), .ref (ma 19), .ref (ma 20), .ref (ma 21), .ref (ma 22), .int 0, .ref (ma 24), .int 0, .ref (ma 26), .int 0, .int 0, .int 0, .int 0, .ref (ma 31), .ref (ma 32), .ref (ma 33), .ref (ma 34), .ref (ma 35), .int 0, .int 0, .ref (ma 38), .ref (ma 39), .ref (ma 40), .long 0])), ((ma 10), .inl (k 1, 220, .inl (mg 10))), ((ma 18), .inl (k 1, 160, .inl (mg 18))), ((ma 22), .inl (k 1, 1320, .inl (mg 22)))]) (va_runV (As := [.int 6]) (rest := []) ⟨hx, hb, hml, hown, hts⟩ (c_count_6 l D k _ qa) (cwV 1 hts lg_132 rfl rfl rfl (by decide +kernel) ⟨Nat.le_of_ble_eq_true rfl, Nat.le_of_ble_eq_true rfl⟩) (pV hK hN hP hD [0, 2, 6, 3, 4, 5, 1] rfl (by decide) rfl 0 rfl rfl) rfl rfl hl.1 rfl (lv_room (Nat.le_of_ble_eq_true rfl)) dL_law_1469 ⟨by decide, by decide⟩) hP hD hS hA [0, 2, 6, 3, 4, 5, 1] [7, 8, 9, 10] rfl rfl (by decide) (by decide) (fun rx83 ux81 H locs wx82 hP hD hS => ?_)
    have hx84 : rx83 = 0 := wx82
    subst hx84
    have hP : va_P D vwCl [((ma 0), .inr (10, [.int 0, .ref (ma 1), .int 0, .int 0, .ref (ma 4), .ref (ma 5), .ref (ma 6), .int 0, .int 0, .ref (ma 9), .ref (ma 10), .ref (ma 11), .ref (ma 12), .int 0, .ref (ma 14), .ref (ma 15), .int 0, .int 0, .ref (ma 18), .ref (ma 19), .ref (ma 20), .ref (ma 21), .ref (ma 22), .int 0, .ref (ma 24), .int 0, .ref (ma 26), .int 0, .int 0, .int 0, .int 0, .ref (ma 31), .ref (ma 32), .ref (ma 33), .ref (ma 34), .ref (ma 35), .int 0, .int 0, .ref (ma 38), .ref (ma 39), .ref (ma 40), .long 0])), ((ma 10), .inl (k 1, 220, .inl (mg 10))), ((ma 18), .inl (k 1, 160, .inl (mg 18))), ((ma 22), .inl (k 1, 1320, .inl (mg 22)))] H := hP
    have hD : va_D A [((ma 0), .inr (10, [.int 0, .ref (ma 1), .int 0, .int 0, .ref (ma 4), .ref (ma 5), .ref (ma 6), .int 0, .int 0, .ref (ma 9), .ref (ma 10), .ref (ma 11), .ref (ma 12), .int 0, .ref (ma 14), .ref (ma 15), .int 0, .int 0, .ref (ma 18), .ref (ma 19), .ref (ma 20), .ref (ma 21), .ref (ma 22), .int 0, .ref (ma 24), .int 0, .ref (ma 26), .int 0, .int 0, .int 0, .int 0, .ref (ma 31), .ref (ma 32), .ref (ma 33), .ref (ma 34), .ref (ma 35), .int 0, .int 0, .ref (ma 38), .ref (ma 39), .ref (ma 40), .long 0])), ((ma 10), .inl (k 1, 220, .inl (mg 10))), ((ma 18), .inl (k 1, 160, .inl (mg 18))), ((ma 22), .inl (k 1, 1320, .inl (mg 22)))] := hD
    refine lv_aload_n hx hb dL_law_1472 rfl (lv_at hl 2 rfl) ?_
    refine lv_aload_n hx hb dL_law_1473 rfl (lv_at hl 4 rfl) ?_
    refine lv_iload hx hb dL_law_1474 (lv_at hl 0 rfl) ?_
    refine lv_iconst (v := 1) hx hb dL_law_1476 (by decide) ?_
    refine lv_iadd hx hb dL_law_1477 ?_
    refine p_topI (v := 1) (by decide) ?_
    refine va_sld hx hb hX hbl hbA hS (show ¬ (_ ∨ _) by decide) dL_law_1478 ?_
    refine p_topI (v := 6) cC ?_
    refine p_ji (wr := []) (va_runV (As := [.int 6]) (rest := [.int 0]) ⟨hx, hb, hml, hown, hts⟩ (c_m_count_6 l D k _ ma mg hl0 hl1 hl2 hs0 hs19 hs26 hn0) (cwV 1 hts lg_133 rfl rfl rfl (by decide +kernel) ⟨Nat.le_of_ble_eq_true rfl, Nat.le_of_ble_eq_true rfl⟩) (pV hK hN hP hD [0, 3, 1, 2] rfl (by decide) rfl 0 rfl rfl) rfl rfl hl.1 rfl (lv_room (Nat.le_of_ble_eq_true rfl)) dL_law_1479 ⟨by decide, by decide⟩) hP hD hS hA [0, 3, 1, 2] [] rfl rfl (by decide) (by decide) (fun rx87 ux85 H locs wx86 hP hD hS => ?_)
    have hx88 : rx87 = 0 := wx86
    subst hx88
    have hP : va_P D vwCl [] H := hP
    have hD : va_D A [] := hD
    refine lv_icmp_eq (tgt := 1487) hx hb dL_law_1482 (by decide) (fun cx89 => ?_) (fun h9 => absurd (by decide) h9)
    refine lv_iinc (v := 7) (lv' := [(4, .int 7), (3, .ref out), (2, .ref (ma 0)), (1, .ref (qa 0)), (0, .ref b)]) hx hb dL_law_1487 hl (k := 0) rfl (by decide) (by decide) rfl (fun ls hl => ?_)
    refine lv_goto (tgt := 23) hx hb dL_law_1490 (by decide) ?_
    refine lv_iload hx hb dL_law_23 (lv_at hl 0 rfl) ?_
    refine lv_aload_n hx hb dL_law_25 rfl (lv_at hl 4 rfl) ?_
    refine va_slen hx hb hX hbl hbA hS dL_law_26 ?_
    refine p_topI (v := 7) (by decide) ?_
    refine lv_bipush (v := 7) hx hb dL_law_27 (by decide) ?_
    refine lv_isub hx hb dL_law_29 ?_
    refine p_topI (v := 0) (by decide) ?_
    refine lv_icmp_gt (tgt := 1493) hx hb dL_law_30 (by decide) (fun cx90 => ?_) (fun h9 => absurd (by decide) h9)
    refine lv_iconst (v := 1) hx hb dL_law_1493 (by decide) ?_
    refine va_forget (fun q hq => hAf _ (hS.2.2 q hq)) ?_
    refine W.widen (k := 600002) (n := 7302232) (by decide) (by decide) ?_
    exact lw_ret hx hb hr hlocks dL_law_1494
  · skip
    refine lv_aload_n hx hb dL_law_1462 rfl (lv_at hl 3 rfl) ?_
    refine lv_aload_n hx hb dL_law_1463 rfl (lv_at hl 4 rfl) ?_
    refine lv_iload hx hb dL_law_1464 (lv_at hl 0 rfl) ?_
    refine lv_iconst (v := 1) hx hb dL_law_1466 (by decide) ?_
    refine lv_iadd hx hb dL_law_1467 ?_
    refine p_topI (v := 1) (by decide) ?_
    refine va_sld hx hb hX hbl hbA hS (show ¬ (_ ∨ _) by decide) dL_law_1468 ?_
    refine p_topI (v := 7) cC ?_
    refine p_ji (wr := [((ma 0), .inr (10, [.int 0, .ref (ma 1), .int 0, .int 0, .ref (ma 4), .ref (ma 5), .ref (ma 6), .int 0, .int 0, .ref (ma 9), .ref (ma 10), .ref (ma 11), .ref (ma 12), .int 0, .ref (ma 14), .ref (ma 15), .int 0, .int 0, .ref (ma 18), .ref (ma 19), .ref (ma 20), .ref (ma 21), .ref (ma 22), .int 0, .ref (ma 24), .int 0, .ref (ma 26), .int 0, .int 0, .int 0, .int 0, .ref (ma 31), .ref (ma 32), .ref (ma 33), .ref (ma 34), .ref (ma 35), .int 0, .int 0, .ref (ma 38), .ref (ma 39), .ref (ma 40), .long 0])), ((ma 10), .inl (k 1, 220, .inl (mg 10))), ((ma 18), .inl (k 1, 160, .inl (mg 18))), ((ma 22), .inl (k 1, 1320, .inl (mg 22)))]) (va_runV (As := [.int 7]) (rest := []) ⟨hx, hb, hml, hown, hts⟩ (c_count_7 l D k _ qa) (cwV 1 hts lg_134 rfl rfl rfl (by decide +kernel) ⟨Nat.le_of_ble_eq_true rfl, Nat.le_of_ble_eq_true rfl⟩) (pV hK hN hP hD [0, 2, 6, 3, 4, 5, 1] rfl (by decide) rfl 0 rfl rfl) rfl rfl hl.1 rfl (lv_room (Nat.le_of_ble_eq_true rfl)) dL_law_1469 ⟨by decide, by decide⟩) hP hD hS hA [0, 2, 6, 3, 4, 5, 1] [7, 8, 9, 10] rfl rfl (by decide) (by decide) (fun rx93 ux91 H locs wx92 hP hD hS => ?_)
    have hx94 : rx93 = 0 := wx92
    subst hx94
    have hP : va_P D vwCl [((ma 0), .inr (10, [.int 0, .ref (ma 1), .int 0, .int 0, .ref (ma 4), .ref (ma 5), .ref (ma 6), .int 0, .int 0, .ref (ma 9), .ref (ma 10), .ref (ma 11), .ref (ma 12), .int 0, .ref (ma 14), .ref (ma 15), .int 0, .int 0, .ref (ma 18), .ref (ma 19), .ref (ma 20), .ref (ma 21), .ref (ma 22), .int 0, .ref (ma 24), .int 0, .ref (ma 26), .int 0, .int 0, .int 0, .int 0, .ref (ma 31), .ref (ma 32), .ref (ma 33), .ref (ma 34), .ref (ma 35), .int 0, .int 0, .ref (ma 38), .ref (ma 39), .ref (ma 40), .long 0])), ((ma 10), .inl (k 1, 220, .inl (mg 10))), ((ma 18), .inl (k 1, 160, .inl (mg 18))), ((ma 22), .inl (k 1, 1320, .inl (mg 22)))] H := hP
    have hD : va_D A [((ma 0), .inr (10, [.int 0, .ref (ma 1), .int 0, .int 0, .ref (ma 4), .ref (ma 5), .ref (ma 6), .int 0, .int 0, .ref (ma 9), .ref (ma 10), .ref (ma 11), .ref (ma 12), .int 0, .ref (ma 14), .ref (ma 15), .int 0, .int 0, .ref (ma 18), .ref (ma 19), .ref (ma 20), .ref (ma 21), .ref (ma 22), .int 0, .ref (ma 24), .int 0, .ref (ma 26), .int 0, .int 0, .int 0, .int 0, .ref (ma 31), .ref (ma 32), .ref (ma 33), .ref (ma 34), .ref (ma 35), .int 0, .int 0, .ref (ma 38), .ref (ma 39), .ref (ma 40), .long 0])), ((ma 10), .inl (k 1, 220, .inl (mg 10))), ((ma 18), .inl (k 1, 160, .inl (mg 18))), ((ma 22), .inl (k 1, 1320, .inl (mg 22)))] := hD
    refine lv_aload_n hx hb dL_law_1472 rfl (lv_at hl 2 rfl) ?_
    refine lv_aload_n hx hb dL_law_1473 rfl (lv_at hl 4 rfl) ?_
    refine lv_iload hx hb dL_law_1474 (lv_at hl 0 rfl) ?_
    refine lv_iconst (v := 1) hx hb dL_law_1476 (by decide) ?_
    refine lv_iadd hx hb dL_law_1477 ?_
    refine p_topI (v := 1) (by decide) ?_
    refine va_sld hx hb hX hbl hbA hS (show ¬ (_ ∨ _) by decide) dL_law_1478 ?_
    refine p_topI (v := 7) cC ?_
    refine p_ji (wr := []) (va_runV (As := [.int 7]) (rest := [.int 0]) ⟨hx, hb, hml, hown, hts⟩ (c_m_count_7 l D k _ ma mg hl0 hl1 hl2 hs0 hs19 hs26 hn0) (cwV 1 hts lg_135 rfl rfl rfl (by decide +kernel) ⟨Nat.le_of_ble_eq_true rfl, Nat.le_of_ble_eq_true rfl⟩) (pV hK hN hP hD [0, 3, 1, 2] rfl (by decide) rfl 0 rfl rfl) rfl rfl hl.1 rfl (lv_room (Nat.le_of_ble_eq_true rfl)) dL_law_1479 ⟨by decide, by decide⟩) hP hD hS hA [0, 3, 1, 2] [] rfl rfl (by decide) (by decide) (fun rx97 ux95 H locs wx96 hP hD hS => ?_)
    have hx98 : rx97 = 0 := wx96
    subst hx98
    have hP : va_P D vwCl [] H := hP
    have hD : va_D A [] := hD
    refine lv_icmp_eq (tgt := 1487) hx hb dL_law_1482 (by decide) (fun cx99 => ?_) (fun h9 => absurd (by decide) h9)
    refine lv_iinc (v := 7) (lv' := [(4, .int 7), (3, .ref out), (2, .ref (ma 0)), (1, .ref (qa 0)), (0, .ref b)]) hx hb dL_law_1487 hl (k := 0) rfl (by decide) (by decide) rfl (fun ls hl => ?_)
    refine lv_goto (tgt := 23) hx hb dL_law_1490 (by decide) ?_
    refine lv_iload hx hb dL_law_23 (lv_at hl 0 rfl) ?_
    refine lv_aload_n hx hb dL_law_25 rfl (lv_at hl 4 rfl) ?_
    refine va_slen hx hb hX hbl hbA hS dL_law_26 ?_
    refine p_topI (v := 7) (by decide) ?_
    refine lv_bipush (v := 7) hx hb dL_law_27 (by decide) ?_
    refine lv_isub hx hb dL_law_29 ?_
    refine p_topI (v := 0) (by decide) ?_
    refine lv_icmp_gt (tgt := 1493) hx hb dL_law_30 (by decide) (fun cx100 => ?_) (fun h9 => absurd (by decide) h9)
    refine lv_iconst (v := 1) hx hb dL_law_1493 (by decide) ?_
    refine va_forget (fun q hq => hAf _ (hS.2.2 q hq)) ?_
    refine W.widen (k := 600002) (n := 7302232) (by decide) (by decide) ?_
    exact lw_ret hx hb hr hlocks dL_law_1494
  · skip
    refine lv_aload_n hx hb dL_law_1462 rfl (lv_at hl 3 rfl) ?_
    refine lv_aload_n hx hb dL_law_1463 rfl (lv_at hl 4 rfl) ?_
    refine lv_iload hx hb dL_law_1464 (lv_at hl 0 rfl) ?_
    refine lv_iconst (v := 1) hx hb dL_law_1466 (by decide) ?_
    refine lv_iadd hx hb dL_law_1467 ?_
    refine p_topI (v := 1) (by decide) ?_
    refine va_sld hx hb hX hbl hbA hS (show ¬ (_ ∨ _) by decide) dL_law_1468 ?_
    refine p_topI (v := 8) cC ?_
    refine p_ji (wr := [((ma 0), .inr (10, [.int 0, .ref (ma 1), .int 0, .int 0, .ref (ma 4), .ref (ma 5), .ref (ma 6), .int 0, .int 0, .ref (ma 9), .ref (ma 10), .ref (ma 11), .ref (ma 12), .int 0, .ref (ma 14), .ref (ma 15), .int 0, .int 0, .ref (ma 18), .ref (ma 19), .ref (ma 20), .ref (ma 21), .ref (ma 22), .int 0, .ref (ma 24), .int 0, .ref (ma 26), .int 0, .int 0, .int 0, .int 0, .ref (ma 31), .ref (ma 32), .ref (ma 33), .ref (ma 34), .ref (ma 35), .int 0, .int 0, .ref (ma 38), .ref (ma 39), .ref (ma 40), .long 0])), ((ma 10), .inl (k 1, 220, .inl (mg 10))), ((ma 18), .inl (k 1, 160, .inl (mg 18))), ((ma 22), .inl (k 1, 1320, .inl (mg 22)))]) (va_runV (As := [.int 8]) (rest := []) ⟨hx, hb, hml, hown, hts⟩ (c_count_8 l D k _ qa) (cwV 1 hts lg_136 rfl rfl rfl (by decide +kernel) ⟨Nat.le_of_ble_eq_true rfl, Nat.le_of_ble_eq_true rfl⟩) (pV hK hN hP hD [0, 2, 6, 3, 4, 5, 1] rfl (by decide) rfl 0 rfl rfl) rfl rfl hl.1 rfl (lv_room (Nat.le_of_ble_eq_true rfl)) dL_law_1469 ⟨by decide, by decide⟩) hP hD hS hA [0, 2, 6, 3, 4, 5, 1] [7, 8, 9, 10] rfl rfl (by decide) (by decide) (fun rx103 ux101 H locs wx102 hP hD hS => ?_)
    have hx104 : rx103 = 0 := wx102
    subst hx104
    have hP : va_P D vwCl [((ma 0), .inr (10, [.int 0, .ref (ma 1), .int 0, .int 0, .ref (ma 4), .ref (ma 5), .ref (ma 6), .int 0, .int 0, .ref (ma 9), .ref (ma 10), .ref (ma 11), .ref (ma 12), .int 0, .ref (ma 14), .ref (ma 15), .int 0, .int 0, .ref (ma 18), .ref (ma 19), .ref (ma 20), .ref (ma 21), .ref (ma 22), .int 0, .ref (ma 24), .int 0, .ref (ma 26), .int 0, .int 0, .int 0, .int 0, .ref (ma 31), .ref (ma 32), .ref (ma 33), .ref (ma 34), .ref (ma 35), .int 0, .int 0, .ref (ma 38), .ref (ma 39), .ref (ma 40), .long 0])), ((ma 10), .inl (k 1, 220, .inl (mg 10))), ((ma 18), .inl (k 1, 160, .inl (mg 18))), ((ma 22), .inl (k 1, 1320, .inl (mg 22)))] H := hP
    have hD : va_D A [((ma 0), .inr (10, [.int 0, .ref (ma 1), .int 0, .int 0, .ref (ma 4), .ref (ma 5), .ref (ma 6), .int 0, .int 0, .ref (ma 9), .ref (ma 10), .ref (ma 11), .ref (ma 12), .int 0, .ref (ma 14), .ref (ma 15), .int 0, .int 0, .ref (ma 18), .ref (ma 19), .ref (ma 20), .ref (ma 21), .ref (ma 22), .int 0, .ref (ma 24), .int 0, .ref (ma 26), .int 0, .int 0, .int 0, .int 0, .ref (ma 31), .ref (ma 32), .ref (ma 33), .ref (ma 34), .ref (ma 35), .int 0, .int 0, .ref (ma 38), .ref (ma 39), .ref (ma 40), .long 0])), ((ma 10), .inl (k 1, 220, .inl (mg 10))), ((ma 18), .inl (k 1, 160, .inl (mg 18))), ((ma 22), .inl (k 1, 1320, .inl (mg 22)))] := hD
    refine lv_aload_n hx hb dL_law_1472 rfl (lv_at hl 2 rfl) ?_
    refine lv_aload_n hx hb dL_law_1473 rfl (lv_at hl 4 rfl) ?_
    refine lv_iload hx hb dL_law_1474 (lv_at hl 0 rfl) ?_
    refine lv_iconst (v := 1) hx hb dL_law_1476 (by decide) ?_
    refine lv_iadd hx hb dL_law_1477 ?_
    refine p_topI (v := 1) (by decide) ?_
    refine va_sld hx hb hX hbl hbA hS (show ¬ (_ ∨ _) by decide) dL_law_1478 ?_
    refine p_topI (v := 8) cC ?_
    refine p_ji (wr := []) (va_runV (As := [.int 8]) (rest := [.int 0]) ⟨hx, hb, hml, hown, hts⟩ (c_m_count_8 l D k _ ma mg hl0 hl1 hl2 hs0 hs19 hs26 hn0) (cwV 1 hts lg_137 rfl rfl rfl (by decide +kernel) ⟨Nat.le_of_ble_eq_true rfl, Nat.le_of_ble_eq_true rfl⟩) (pV hK hN hP hD [0, 3, 1, 2] rfl (by decide) rfl 0 rfl rfl) rfl rfl hl.1 rfl (lv_room (Nat.le_of_ble_eq_true rfl)) dL_law_1479 ⟨by decide, by decide⟩) hP hD hS hA [0, 3, 1, 2] [] rfl rfl (by decide) (by decide) (fun rx107 ux105 H locs wx106 hP hD hS => ?_)
    have hx108 : rx107 = 0 := wx106
    subst hx108
    have hP : va_P D vwCl [] H := hP
    have hD : va_D A [] := hD
    refine lv_icmp_eq (tgt := 1487) hx hb dL_law_1482 (by decide) (fun cx109 => ?_) (fun h9 => absurd (by decide) h9)
    refine lv_iinc (v := 7) (lv' := [(4, .int 7), (3, .ref out), (2, .ref (ma 0)), (1, .ref (qa 0)), (0, .ref b)]) hx hb dL_law_1487 hl (k := 0) rfl (by decide) (by decide) rfl (fun ls hl => ?_)
    refine lv_goto (tgt := 23) hx hb dL_law_1490 (by decide) ?_
    refine lv_iload hx hb dL_law_23 (lv_at hl 0 rfl) ?_
    refine lv_aload_n hx hb dL_law_25 rfl (lv_at hl 4 rfl) ?_
    refine va_slen hx hb hX hbl hbA hS dL_law_26 ?_
    refine p_topI (v := 7) (by decide) ?_
    refine lv_bipush (v := 7) hx hb dL_law_27 (by decide) ?_
    refine lv_isub hx hb dL_law_29 ?_
    refine p_topI (v := 0) (by decide) ?_
    refine lv_icmp_gt (tgt := 1493) hx hb dL_law_30 (by decide) (fun cx110 => ?_) (fun h9 => absurd (by decide) h9)
    refine lv_iconst (v := 1) hx hb dL_law_1493 (by decide) ?_
    refine va_forget (fun q hq => hAf _ (hS.2.2 q hq)) ?_
    refine W.widen (k := 600002) (n := 7302232) (by decide) (by decide) ?_
    exact lw_ret hx hb hr hlocks dL_law_1494
  · skip
    refine lv_aload_n hx hb dL_law_1462 rfl (lv_at hl 3 rfl) ?_
    refine lv_aload_n hx hb dL_law_1463 rfl (lv_at hl 4 rfl) ?_
    refine lv_iload hx hb dL_law_1464 (lv_at hl 0 rfl) ?_
    refine lv_iconst (v := 1) hx hb dL_law_1466 (by decide) ?_
    refine lv_iadd hx hb dL_law_1467 ?_
    refine p_topI (v := 1) (by decide) ?_
    refine va_sld hx hb hX hbl hbA hS (show ¬ (_ ∨ _) by decide) dL_law_1468 ?_
    refine p_topI (v := 9) cC ?_
    refine p_ji (wr := [((ma 0), .inr (10, [.int 0, .ref (ma 1), .int 0, .int 0, .ref (ma 4), .ref (ma 5), .ref (ma 6), .int 0, .int 0, .ref (ma 9), .ref (ma 10), .ref (ma 11), .ref (ma 12), .int 0, .ref (ma 14), .ref (ma 15), .int 0, .int 0, .ref (ma 18), .ref (ma 19), .ref (ma 20), .ref (ma 21), .ref (ma 22), .int 0, .ref (ma 24), .int 0, .ref (ma 26), .int 0, .int 0, .int 0, .int 0, .ref (ma 31), .ref (ma 32), .ref (ma 33), .ref (ma 34), .ref (ma 35), .int 0, .int 0, .ref (ma 38), .ref (ma 39), .ref (ma 40), .long 0])), ((ma 10), .inl (k 1, 220, .inl (mg 10))), ((ma 18), .inl (k 1, 160, .inl (mg 18))), ((ma 22), .inl (k 1, 1320, .inl (mg 22)))]) (va_runV (As := [.int 9]) (rest := []) ⟨hx, hb, hml, hown, hts⟩ (c_count_9 l D k _ qa) (cwV 1 hts lg_138 rfl rfl rfl (by decide +kernel) ⟨Nat.le_of_ble_eq_true rfl, Nat.le_of_ble_eq_true rfl⟩) (pV hK hN hP hD [0, 2, 6, 3, 4, 5, 1] rfl (by decide) rfl 0 rfl rfl) rfl rfl hl.1 rfl (lv_room (Nat.le_of_ble_eq_true rfl)) dL_law_1469 ⟨by decide, by decide⟩) hP hD hS hA [0, 2, 6, 3, 4, 5, 1] [7, 8, 9, 10] rfl rfl (by decide) (by decide) (fun rx113 ux111 H locs wx112 hP hD hS => ?_)
    have hx114 : rx113 = 0 := wx112
    subst hx114
    have hP : va_P D vwCl [((ma 0), .inr (10, [.int 0, .ref (ma 1), .int 0, .int 0, .ref (ma 4), .ref (ma 5), .ref (ma 6), .int 0, .int 0, .ref (ma 9), .ref (ma 10), .ref (ma 11), .ref (ma 12), .int 0, .ref (ma 14), .ref (ma 15), .int 0, .int 0, .ref (ma 18), .ref (ma 19), .ref (ma 20), .ref (ma 21), .ref (ma 22), .int 0, .ref (ma 24), .int 0, .ref (ma 26), .int 0, .int 0, .int 0, .int 0, .ref (ma 31), .ref (ma 32), .ref (ma 33), .ref (ma 34), .ref (ma 35), .int 0, .int 0, .ref (ma 38), .ref (ma 39), .ref (ma 40), .long 0])), ((ma 10), .inl (k 1, 220, .inl (mg 10))), ((ma 18), .inl (k 1, 160, .inl (mg 18))), ((ma 22), .inl (k 1, 1320, .inl (mg 22)))] H := hP
    have hD : va_D A [((ma 0), .inr (10, [.int 0, .ref (ma 1), .int 0, .int 0, .ref (ma 4), .ref (ma 5), .ref (ma 6), .int 0, .int 0, .ref (ma 9), .ref (ma 10), .ref (ma 11), .ref (ma 12), .int 0, .ref (ma 14), .ref (ma 15), .int 0, .int 0, .ref (ma 18), .ref (ma 19), .ref (ma 20), .ref (ma 21), .ref (ma 22), .int 0, .ref (ma 24), .int 0, .ref (ma 26), .int 0, .int 0, .int 0, .int 0, .ref (ma 31), .ref (ma 32), .ref (ma 33), .ref (ma 34), .ref (ma 35), .int 0, .int 0, .ref (ma 38), .ref (ma 39), .ref (ma 40), .long 0])), ((ma 10), .inl (k 1, 220, .inl (mg 10))), ((ma 18), .inl (k 1, 160, .inl (mg 18))), ((ma 22), .inl (k 1, 1320, .inl (mg 22)))] := hD
    refine lv_aload_n hx hb dL_law_1472 rfl (lv_at hl 2 rfl) ?_
    refine lv_aload_n hx hb dL_law_1473 rfl (lv_at hl 4 rfl) ?_
    refine lv_iload hx hb dL_law_1474 (lv_at hl 0 rfl) ?_
    refine lv_iconst (v := 1) hx hb dL_law_1476 (by decide) ?_
    refine lv_iadd hx hb dL_law_1477 ?_
    refine p_topI (v := 1) (by decide) ?_
    refine va_sld hx hb hX hbl hbA hS (show ¬ (_ ∨ _) by decide) dL_law_1478 ?_
    refine p_topI (v := 9) cC ?_
    refine p_ji (wr := []) (va_runV (As := [.int 9]) (rest := [.int 0]) ⟨hx, hb, hml, hown, hts⟩ (c_m_count_9 l D k _ ma mg hl0 hl1 hl2 hs0 hs19 hs26 hn0) (cwV 1 hts lg_139 rfl rfl rfl (by decide +kernel) ⟨Nat.le_of_ble_eq_true rfl, Nat.le_of_ble_eq_true rfl⟩) (pV hK hN hP hD [0, 3, 1, 2] rfl (by decide) rfl 0 rfl rfl) rfl rfl hl.1 rfl (lv_room (Nat.le_of_ble_eq_true rfl)) dL_law_1479 ⟨by decide, by decide⟩) hP hD hS hA [0, 3, 1, 2] [] rfl rfl (by decide) (by decide) (fun rx117 ux115 H locs wx116 hP hD hS => ?_)
    have hx118 : rx117 = 0 := wx116
    subst hx118
    have hP : va_P D vwCl [] H := hP
    have hD : va_D A [] := hD
    refine lv_icmp_eq (tgt := 1487) hx hb dL_law_1482 (by decide) (fun cx119 => ?_) (fun h9 => absurd (by decide) h9)
    refine lv_iinc (v := 7) (lv' := [(4, .int 7), (3, .ref out), (2, .ref (ma 0)), (1, .ref (qa 0)), (0, .ref b)]) hx hb dL_law_1487 hl (k := 0) rfl (by decide) (by decide) rfl (fun ls hl => ?_)
    refine lv_goto (tgt := 23) hx hb dL_law_1490 (by decide) ?_
    refine lv_iload hx hb dL_law_23 (lv_at hl 0 rfl) ?_
    refine lv_aload_n hx hb dL_law_25 rfl (lv_at hl 4 rfl) ?_
    refine va_slen hx hb hX hbl hbA hS dL_law_26 ?_
    refine p_topI (v := 7) (by decide) ?_
    refine lv_bipush (v := 7) hx hb dL_law_27 (by decide) ?_
    refine lv_isub hx hb dL_law_29 ?_
    refine p_topI (v := 0) (by decide) ?_
    refine lv_icmp_gt (tgt := 1493) hx hb dL_law_30 (by decide) (fun cx120 => ?_) (fun h9 => absurd (by decide) h9)
    refine lv_iconst (v := 1) hx hb dL_law_1493 (by decide) ?_
    refine va_forget (fun q hq => hAf _ (hS.2.2 q hq)) ?_
    refine W.widen (k := 600002) (n := 7302232) (by decide) (by decide) ?_
    exact lw_ret hx hb hr hlocks dL_law_1494
