set_option maxHeartbeats 4000000 in
set_option maxRecDepth 100000 in
theorem p_law23 {p : Program} {e : Env} {s : State} {m : MethodId} {below : List Frame} {meth : Method} {c : Code} (l : Launch) {b : Nat} {xs : Nat → Int32} (C0 : lw_At p s m meth c b 7 xs) (hts : ∀ w ∈ p_tbl, w.before #[Value.ref b] s = true) {D : va_G} {k : Nat → ClassId} (hK : va_K D vwCl (pT k) s) (hN : pN s) {A : Nat → Prop} (hA : ∀ q : Nat, s.heap.size ≤ q → A q) (hAf : ∀ q : Nat, A q → s.heap.size ≤ q) (qa ma : Nat → Nat) (gs mg : Nat → Nat → Int32) (out : Nat) (hf : p_mf mg) (hst : l.stackTraces = false) (sa1 sa2 : Nat) (hX1 : pX 193 "no such river, or nothing such of it" sa1 A s) (hX2 : pX 351 "no such town, or nothing such of it" sa2 A s) {H : Heap} {locs : List Loc} {ls : Array Slot} (hP : va_P D vwCl (p_big k qa ma gs mg) H) (hD : va_D A (p_big k qa ma gs mg)) (hS : va_S A s.heap H locs) (hl : lv_has ls 7 [(4, .int 0), (3, .ref out), (2, .ref (ma 0)), (1, .ref (qa 0)), (0, .ref b)]) : W p l e room_1 s m #[Value.ref b] below meth c H locs 265 37830 (lw_Z below #[Value.ref b] s) (F0 m 23 ls []) := by
  obtain ⟨hx, hb, hr, hml, hown, -, hX, hbl, hlocks, hgv⟩ := id C0
  have hbA : ¬ A b := fun h => absurd (hAf b h) (Nat.not_le.mpr hbl)
  refine lv_iload hx hb dL_law_23 (lv_at hl 0 rfl) ?_
  refine lv_aload_n hx hb dL_law_25 rfl (lv_at hl 4 rfl) ?_
  refine va_slen hx hb hX hbl hbA hS dL_law_26 ?_
  refine p_topI (v := 7) (by decide) ?_
  refine lv_bipush (v := 7) hx hb dL_law_27 (by decide) ?_
  refine lv_isub hx hb dL_law_29 ?_
  refine p_topI (v := 0) (by decide) ?_
  refine lv_icmp_gt (tgt := 1493) hx hb dL_law_30 (by decide) (fun h9 => absurd h9 (by decide)) (fun cx1 => ?_)
  refine lv_aload_n hx hb dL_law_33 rfl (lv_at hl 4 rfl) ?_
  refine lv_iload hx hb dL_law_34 (lv_at hl 0 rfl) ?_
  refine va_sld hx hb hX hbl hbA hS (show ¬ (_ ∨ _) by decide) dL_law_36 ?_
  refine p_topI (v := (xs 0)) rfl ?_
  refine lv_bipush (v := 63) hx hb dL_law_37 (by decide) ?_
  refine lv_iand hx hb dL_law_39 ?_
  by_cases c0 : ((xs 0) &&& 63) = 0
  · refine lv_tableIn (tgt := 196) hx hb dL_law_40 (by rw [c0]; decide) (by rw [c0]; decide) (by rw [c0]; rfl) (by decide) ?_
    exact lc_feed l C0 hts hK hN hA hAf qa ma gs mg out hf hP hD hS hl
  by_cases c1 : ((xs 0) &&& 63) = 1
  · refine lv_tableIn (tgt := 343) hx hb dL_law_40 (by rw [c1]; decide) (by rw [c1]; decide) (by rw [c1]; rfl) (by decide) ?_
    exact lc_land l C0 hts hK hN hA hAf qa ma gs mg out hf hP hD hS hl
  by_cases c2 : ((xs 0) &&& 63) = 2
  · refine lv_tableIn (tgt := 356) hx hb dL_law_40 (by rw [c2]; decide) (by rw [c2]; decide) (by rw [c2]; rfl) (by decide) ?_
    exact lc_vows l C0 hts hK hN hA hAf qa ma gs mg out hf hP hD hS hl
  by_cases c3 : ((xs 0) &&& 63) = 3
  · refine lv_tableIn (tgt := 369) hx hb dL_law_40 (by rw [c3]; decide) (by rw [c3]; decide) (by rw [c3]; rfl) (by decide) ?_
    exact lc_will l C0 hts hK hN hA hAf qa ma gs mg out hf hP hD hS hl
  by_cases c4 : ((xs 0) &&& 63) = 4
  · refine lv_tableIn (tgt := 382) hx hb dL_law_40 (by rw [c4]; decide) (by rw [c4]; decide) (by rw [c4]; rfl) (by decide) ?_
    exact lc_river l C0 hts hK hN hA hAf qa ma gs mg out hf hst sa1 hX1 hP hD hS hl
  by_cases c5 : ((xs 0) &&& 63) = 5
  · refine lv_tableIn (tgt := 450) hx hb dL_law_40 (by rw [c5]; decide) (by rw [c5]; decide) (by rw [c5]; rfl) (by decide) ?_
    exact lc_flow l C0 hts hK hN hA hAf qa ma gs mg out hf hP hD hS hl
  by_cases c6 : ((xs 0) &&& 63) = 6
  · refine lv_tableIn (tgt := 499) hx hb dL_law_40 (by rw [c6]; decide) (by rw [c6]; decide) (by rw [c6]; rfl) (by decide) ?_
    exact lc_needs l C0 hts hK hN hA hAf qa ma gs mg out hf hP hD hS hl
  by_cases c7 : ((xs 0) &&& 63) = 7
  · refine lv_tableIn (tgt := 524) hx hb dL_law_40 (by rw [c7]; decide) (by rw [c7]; decide) (by rw [c7]; rfl) (by decide) ?_
    exact lc_near l C0 hts hK hN hA hAf qa ma gs mg out hf hP hD hS hl
  by_cases c8 : ((xs 0) &&& 63) = 8
  · refine lv_tableIn (tgt := 561) hx hb dL_law_40 (by rw [c8]; decide) (by rw [c8]; decide) (by rw [c8]; rfl) (by decide) ?_
    exact lc_dig l C0 hts hK hN hA hAf qa ma gs mg out hf hP hD hS hl
  by_cases c9 : ((xs 0) &&& 63) = 9
  · refine lv_tableIn (tgt := 598) hx hb dL_law_40 (by rw [c9]; decide) (by rw [c9]; decide) (by rw [c9]; rfl) (by decide) ?_
    exact lc_may l C0 hts hK hN hA hAf qa ma gs mg out hf hP hD hS hl
  by_cases c10 : ((xs 0) &&& 63) = 10
  · refine lv_tableIn (tgt := 623) hx hb dL_law_40 (by rw [c10]; decide) (by rw [c10]; decide) (by rw [c10]; rfl) (by decide) ?_
    exact lc_ends l C0 hts hK hN hA hAf qa ma gs mg out hf hP hD hS hl
  by_cases c11 : ((xs 0) &&& 63) = 11
  · refine lv_tableIn (tgt := 636) hx hb dL_law_40 (by rw [c11]; decide) (by rw [c11]; decide) (by rw [c11]; rfl) (by decide) ?_
    exact lc_wed l C0 hts hK hN hA hAf qa ma gs mg out hf hP hD hS hl
  by_cases c12 : ((xs 0) &&& 63) = 12
  · refine lv_tableIn (tgt := 673) hx hb dL_law_40 (by rw [c12]; decide) (by rw [c12]; decide) (by rw [c12]; rfl) (by decide) ?_
    exact lc_part l C0 hts hK hN hA hAf qa ma gs mg out hf hP hD hS hl
  by_cases c13 : ((xs 0) &&& 63) = 13
  · refine lv_tableIn (tgt := 698) hx hb dL_law_40 (by rw [c13]; decide) (by rw [c13]; decide) (by rw [c13]; rfl) (by decide) ?_
    exact lc_seasons l C0 hts hK hN hA hAf qa ma gs mg out hf hP hD hS hl
  by_cases c14 : ((xs 0) &&& 63) = 14
  · refine lv_tableIn (tgt := 723) hx hb dL_law_40 (by rw [c14]; decide) (by rw [c14]; decide) (by rw [c14]; rfl) (by decide) ?_
    exact lc_undo l C0 hts hK hN hA hAf qa ma gs mg out hf hP hD hS hl
  by_cases c15 : ((xs 0) &&& 63) = 15
  · refine lv_tableIn (tgt := 736) hx hb dL_law_40 (by rw [c15]; decide) (by rw [c15]; decide) (by rw [c15]; rfl) (by decide) ?_
    exact lc_judged l C0 hts hK hN hA hAf qa ma gs mg out hf hP hD hS hl
  by_cases c16 : ((xs 0) &&& 63) = 16
  · refine lv_tableIn (tgt := 761) hx hb dL_law_40 (by rw [c16]; decide) (by rw [c16]; decide) (by rw [c16]; rfl) (by decide) ?_
    exact lc_worn l C0 hts hK hN hA hAf qa ma gs mg out hf hP hD hS hl
  by_cases c17 : ((xs 0) &&& 63) = 17
  · refine lv_tableIn (tgt := 798) hx hb dL_law_40 (by rw [c17]; decide) (by rw [c17]; decide) (by rw [c17]; rfl) (by decide) ?_
    exact lc_love l C0 hts hK hN hA hAf qa ma gs mg out hf hP hD hS hl
  by_cases c18 : ((xs 0) &&& 63) = 18
  · refine lv_tableIn (tgt := 823) hx hb dL_law_40 (by rw [c18]; decide) (by rw [c18]; decide) (by rw [c18]; rfl) (by decide) ?_
    exact lc_hyphen l C0 hts hK hN hA hAf qa ma gs mg out hf hP hD hS hl
  by_cases c19 : ((xs 0) &&& 63) = 19
  · refine lv_tableIn (tgt := 848) hx hb dL_law_40 (by rw [c19]; decide) (by rw [c19]; decide) (by rw [c19]; rfl) (by decide) ?_
    exact lc_match l C0 hts hK hN hA hAf qa ma gs mg out hf hP hD hS hl
  by_cases c20 : ((xs 0) &&& 63) = 20
  · refine lv_tableIn (tgt := 873) hx hb dL_law_40 (by rw [c20]; decide) (by rw [c20]; decide) (by rw [c20]; rfl) (by decide) ?_
    exact lc_chain l C0 hts hK hN hA hAf qa ma gs mg out hf hP hD hS hl
  by_cases c21 : ((xs 0) &&& 63) = 21
  · refine lv_tableIn (tgt := 922) hx hb dL_law_40 (by rw [c21]; decide) (by rw [c21]; decide) (by rw [c21]; rfl) (by decide) ?_
    exact lc_peace l C0 hts hK hN hA hAf qa ma gs mg out hf hP hD hS hl
  by_cases c22 : ((xs 0) &&& 63) = 22
  · refine lv_tableIn (tgt := 935) hx hb dL_law_40 (by rw [c22]; decide) (by rw [c22]; decide) (by rw [c22]; rfl) (by decide) ?_
    exact lc_cathedral l C0 hts hK hN hA hAf qa ma gs mg out hf hP hD hS hl
  by_cases c23 : ((xs 0) &&& 63) = 23
  · refine lv_tableIn (tgt := 960) hx hb dL_law_40 (by rw [c23]; decide) (by rw [c23]; decide) (by rw [c23]; rfl) (by decide) ?_
    exact lc_eddies l C0 hts hK hN hA hAf qa ma gs mg out hf hP hD hS hl
  by_cases c24 : ((xs 0) &&& 63) = 24
  · refine lv_tableIn (tgt := 973) hx hb dL_law_40 (by rw [c24]; decide) (by rw [c24]; decide) (by rw [c24]; rfl) (by decide) ?_
    exact lc_worst l C0 hts hK hN hA hAf qa ma gs mg out hf hst sa2 hX2 hP hD hS hl
  by_cases c25 : ((xs 0) &&& 63) = 25
  · refine lv_tableIn (tgt := 1041) hx hb dL_law_40 (by rw [c25]; decide) (by rw [c25]; decide) (by rw [c25]; rfl) (by decide) ?_
    exact lc_share l C0 hts hK hN hA hAf qa ma gs mg out hf hP hD hS hl
  by_cases c26 : ((xs 0) &&& 63) = 26
  · refine lv_tableIn (tgt := 1090) hx hb dL_law_40 (by rw [c26]; decide) (by rw [c26]; decide) (by rw [c26]; rfl) (by decide) ?_
    exact lc_storms l C0 hts hK hN hA hAf qa ma gs mg out hf hP hD hS hl
  by_cases c27 : ((xs 0) &&& 63) = 27
  · refine lv_tableIn (tgt := 1127) hx hb dL_law_40 (by rw [c27]; decide) (by rw [c27]; decide) (by rw [c27]; rfl) (by decide) ?_
    exact lc_walls l C0 hts hK hN hA hAf qa ma gs mg out hf hP hD hS hl
  by_cases c28 : ((xs 0) &&& 63) = 28
  · refine lv_tableIn (tgt := 1176) hx hb dL_law_40 (by rw [c28]; decide) (by rw [c28]; decide) (by rw [c28]; rfl) (by decide) ?_
    exact lc_tell l C0 hts hK hN hA hAf qa ma gs mg out hf hP hD hS hl
  by_cases c29 : ((xs 0) &&& 63) = 29
  · refine lv_tableIn (tgt := 1225) hx hb dL_law_40 (by rw [c29]; decide) (by rw [c29]; decide) (by rw [c29]; rfl) (by decide) ?_
    exact lc_found l C0 hts hK hN hA hAf qa ma gs mg out hf hP hD hS hl
  by_cases c30 : ((xs 0) &&& 63) = 30
  · refine lv_tableIn (tgt := 1250) hx hb dL_law_40 (by rw [c30]; decide) (by rw [c30]; decide) (by rw [c30]; rfl) (by decide) ?_
    exact lc_rests l C0 hts hK hN hA hAf qa ma gs mg out hf hP hD hS hl
  by_cases c31 : ((xs 0) &&& 63) = 31
  · refine lv_tableIn (tgt := 1311) hx hb dL_law_40 (by rw [c31]; decide) (by rw [c31]; decide) (by rw [c31]; rfl) (by decide) ?_
    exact lc_dams l C0 hts hK hN hA hAf qa ma gs mg out hf hP hD hS hl
  by_cases c32 : ((xs 0) &&& 63) = 32
  · refine lv_tableIn (tgt := 1360) hx hb dL_law_40 (by rw [c32]; decide) (by rw [c32]; decide) (by rw [c32]; rfl) (by decide) ?_
    exact lc_centuries l C0 hts hK hN hA hAf qa ma gs mg out hf hP hD hS hl
  by_cases c33 : ((xs 0) &&& 63) = 33
  · refine lv_tableIn (tgt := 1409) hx hb dL_law_40 (by rw [c33]; decide) (by rw [c33]; decide) (by rw [c33]; rfl) (by decide) ?_
    exact lc_mark l C0 hts hK hN hA hAf qa ma gs mg out hf hP hD hS hl
  by_cases c34 : ((xs 0) &&& 63) = 34
  · refine lv_tableIn (tgt := 1462) hx hb dL_law_40 (by rw [c34]; decide) (by rw [c34]; decide) (by rw [c34]; rfl) (by decide) ?_
    exact lc_count l C0 hts hK hN hA hAf qa ma gs mg out hf hP hD hS hl
  refine lv_tableOut (tgt := 1487) hx hb dL_law_40 (p_out _ (fun n hn => by match n, hn with | 0, _ => exact c0 | 1, _ => exact c1 | 2, _ => exact c2 | 3, _ => exact c3 | 4, _ => exact c4 | 5, _ => exact c5 | 6, _ => exact c6 | 7, _ => exact c7 | 8, _ => exact c8 | 9, _ => exact c9 | 10, _ => exact c10 | 11, _ => exact c11 | 12, _ => exact c12 | 13, _ => exact c13 | 14, _ => exact c14 | 15, _ => exact c15 | 16, _ => exact c16 | 17, _ => exact c17 | 18, _ => exact c18 | 19, _ => exact c19 | 20, _ => exact c20 | 21, _ => exact c21 | 22, _ => exact c22 | 23, _ => exact c23 | 24, _ => exact c24 | 25, _ => exact c25 | 26, _ => exact c26 | 27, _ => exact c27 | 28, _ => exact c28 | 29, _ => exact c29 | 30, _ => exact c30 | 31, _ => exact c31 | 32, _ => exact c32 | 33, _ => exact c33 | 34, _ => exact c34 | n + 35, h => exact absurd h (by omega))) (by decide) ?_
  refine lv_iinc (v := 7) (lv' := [(4, .int 7), (3, .ref out), (2, .ref (ma 0)), (1, .ref (qa 0)), (0, .ref b)]) hx hb dL_law_1487 hl (k := 0) rfl (by decide) (by decide) rfl (fun ls hl => ?_)
  refine lv_goto (tgt := 23) hx hb dL_law_1490 (by decide) ?_
  refine lv_iload hx hb dL_law_23 (lv_at hl 0 rfl) ?_
  refine lv_aload_n hx hb dL_law_25 rfl (lv_at hl 4 rfl) ?_
  refine va_slen hx hb hX hbl hbA hS dL_law_26 ?_
  refine p_topI (v := 7) (by decide) ?_
  refine lv_bipush (v := 7) hx hb dL_law_27 (by decide) ?_
  refine lv_isub hx hb dL_law_29 ?_
  refine p_topI (v := 0) (by decide) ?_
  refine lv_icmp_gt (tgt := 1493) hx hb dL_law_30 (by decide) (fun cx1 => ?_) (fun h9 => absurd (by decide) h9)
  refine lv_iconst (v := 1) hx hb dL_law_1493 (by decide) ?_
  refine va_forget (fun q hq => hAf _ (hS.2.2 q hq)) ?_
  refine W.widen (k := 600002) (n := 7302232) (by decide) (by decide) ?_
  exact lw_ret hx hb hr hlocks dL_law_1494

set_option maxHeartbeats 4000000 in
set_option maxRecDepth 100000 in
theorem p_short {p : Program} {e : Env} {s : State} {m : MethodId} {below : List Frame} {meth : Method} {c : Code} (l : Launch) {b : Nat} {xs : Nat → Int32} {L : Nat} (hL : L < 7) (C0 : lw_At p s m meth c b L xs) {A : Nat → Prop} (hAf : ∀ q : Nat, A q → s.heap.size ≤ q) (x1 x2 out : Nat) {H : Heap} {locs : List Loc} {ls : Array Slot} (hS : va_S A s.heap H locs) (hl : lv_has ls 7 [(4, .int 0), (3, .ref out), (2, .ref x2), (1, .ref x1), (0, .ref b)]) : W p l e room_1 s m #[Value.ref b] below meth c H locs 265 37830 (lw_Z below #[Value.ref b] s) (F0 m 23 ls []) := by
  obtain ⟨hx, hb, hr, hml, hown, -, hX, hbl, hlocks, hgv⟩ := id C0
  have hbA : ¬ A b := fun h => absurd (hAf b h) (Nat.not_le.mpr hbl)
  refine lv_iload hx hb dL_law_23 (lv_at hl 0 rfl) ?_
  refine lv_aload_n hx hb dL_law_25 rfl (lv_at hl 4 rfl) ?_
  refine va_slen hx hb hX hbl hbA hS dL_law_26 ?_
  refine lv_bipush (v := 7) hx hb dL_law_27 (by decide) ?_
  refine lv_isub hx hb dL_law_29 ?_
  refine lv_icmp_gt (tgt := 1493) hx hb dL_law_30 (by decide) (fun _ => ?_) (fun h9 => absurd (show nI L - nI 7 < 0 from pk_sneg (by decide) hL) h9)
  refine lv_iconst (v := 1) hx hb dL_law_1493 (by decide) ?_
  refine va_forget (fun q hq => hAf _ (hS.2.2 q hq)) ?_
  refine W.widen (k := 600002) (n := 7302232) (by decide) (by decide) ?_
  exact lw_ret hx hb hr hlocks dL_law_1494

