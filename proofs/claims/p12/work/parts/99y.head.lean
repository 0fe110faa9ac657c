theorem lw_outs (x : Int32) (h : ∀ n : Nat, n < 35 → ¬ x &&& 63 = nI n) : (x &&& 63).toInt < 0 ∨ 34 < (x &&& 63).toInt := by
  obtain ⟨j, hj, e⟩ := pk_andE x (m := 63) 6 (by decide)
  have h9 : ¬ j < 35 := fun hn => h j hn e
  rw [e, nI_toInt (by omega)]
  omega
theorem lw_inB {K L : Nat} (h : 7 * K + 7 ≤ L) (hL : L ≤ 3584) (jv : Int32) (h0 : 0 ≤ jv.toInt) (h6 : jv.toInt ≤ 6) : vp_in (nI (7 * K) + jv) L := by
  have e : (nI (7 * K) + jv).toInt = (7 * K : Nat) + jv.toInt := by
    have e1 := nI_toInt (n := 7 * K) (by omega)
    rw [ti_add (by rw [e1]; omega), e1]
  refine f_in ⟨Int32.le_iff_toInt_le.mpr (show (0 : Int32).toInt ≤ _ from by rw [show (0 : Int32).toInt = 0 from by decide, e]; omega), ?_⟩
  show (nI (7 * K) + jv).toInt.toNat < L
  omega
theorem lw_next {K : Nat} (h : K ≤ 600) : nI (7 * K) + Int32.ofInt 7 = nI (7 * (K + 1)) := by
  apply Int32.toInt_inj.mp
  have e1 := nI_toInt (n := 7 * K) (by omega)
  have e7 : (Int32.ofInt 7).toInt = 7 := by decide
  rw [ti_add (by rw [e1, e7]; omega), e1, e7, nI_toInt (by omega)]
  omega
theorem lw_more {K L : Nat} (hL : L ≤ 3584) (hK : K ≤ 600) (h : ¬ Int32.ofNat L - 7 < nI (7 * K)) : 7 * K + 7 ≤ L := by
  have e1 := nI_toInt (n := 7 * K) (by omega)
  have e2 : (Int32.ofNat L).toInt = (L : Int) := nI_toInt (n := L) (by omega)
  have e7 : (7 : Int32).toInt = 7 := by decide
  have e3 : (Int32.ofNat L - 7).toInt = (L : Int) - 7 := by
    rw [ti_sub (by rw [e2, e7]; omega), e2, e7]
  rcases Nat.lt_or_ge L (7 * K + 7) with h9 | h9
  · exact absurd (Int32.lt_iff_toInt_lt.mpr (by rw [e3, e1]; omega)) h
  · exact h9
theorem IB.mono {K : Nat} {aC : Nat → Nat → Int32} {v : Nat → Option Nat} {aM : Nat → Nat → Int32} {bM : Nat → Nat → Int64} (h : IB K aC v aM bM) : IB (K + 1) aC v aM bM := ⟨⟨RC.mono h.1.1, h.1.2⟩, ⟨RM.mono h.2.1.1, h.2.1.2⟩, h.2.2⟩
set_option maxHeartbeats 4000000 in
set_option maxRecDepth 100000 in
theorem lw_one {p : Program} {l : Launch} {e : Env} {s : State} {m : MethodId} {below : List Frame} {meth : Method} {c : Code} {H : Heap} {locs : List Loc} {cells slots : Nat} {Q : State → Prop} {ls : Array Slot} {b L : Nat} {xs : Nat → Int32} {A : Nat → Prop} {D : va_G} {k : Nat → ClassId} {qC qM : Nat → Nat} {out : Nat} {g : Nat → Int64} (I : lw_In p s m meth c b L xs A D k qC qM) {K : Nat} (hK : K ≤ 600) {aC : Nat → Nat → Int32} {bC : Nat → Nat → Int64} {v : Nat → Option Nat} {aM : Nat → Nat → Int32} {bM : Nat → Nat → Int64} (hB : IB K aC v aM bM) (hJ : lw_J s A D k qC qM out (cH aC bC v) (mH aM bM) g H locs) {i : Int32} (hl : lv_has ls 7 [(4, .int i), (3, .ref out), (2, .ref (qM 0)), (1, .ref (qC 0)), (0, .ref b)]) (hin : ∀ jv : Int32, 0 ≤ jv.toInt → jv.toInt ≤ 6 → vp_in (i + jv) L) (hcs : cells + 1 ≤ 601024 ∧ slots + 6 ≤ 7293033) (hst : l.stackTraces = false) {sa1 sa2 : Nat} (hX1 : pX 193 "no such river, or nothing such of it" sa1 A s) (hX2 : pX 351 "no such town, or nothing such of it" sa2 A s) (kk : lw_K p l e s m b below meth c (cells + 1) (slots + 6) Q A D k qC qM out (K + 1) i) : W p l e room_1 s m #[Value.ref b] below meth c H locs cells slots Q (F0 m 33 ls []) := by
  obtain ⟨⟨hx, hb, hr, hml, hown, -, hX, hbl, hlocks, hgv⟩, -, -, -, -, -, hAf⟩ := id I
  have hbA : ¬ A b := fun h => absurd (hAf b h) (Nat.not_le.mpr hbl)
  have hcs0 : cells ≤ 601024 ∧ slots ≤ 7293033 := ⟨by omega, by omega⟩
  have k0 : lw_K p l e s m b below meth c cells slots Q A D k qC qM out (K + 1) i := fun aC bC v aM bM g H locs ls h1 h2 h3 => W.widen (k := cells + 1) (n := slots + 6) (by omega) (by omega) (kk aC bC v aM bM g H locs ls h1 h2 h3)
  refine lv_aload_n hx hb dL_law_33 rfl (lv_at hl 4 rfl) ?_
  refine lv_iload hx hb dL_law_34 (lv_at hl 0 rfl) ?_
  have hi0 : vp_in i L := by
    have h9 := hin 0 (by decide) (by decide)
    rw [Int32.add_zero] at h9
    exact h9
  refine va_sld hx hb hX hbl hbA hJ.2.2 hi0 dL_law_36 ?_
  refine lv_bipush (v := 63) hx hb dL_law_37 (by decide) ?_
  refine lv_iand hx hb dL_law_39 ?_
  generalize xs i.toNatClampNeg = w
  by_cases c0 : (w &&& 63) = 0
  · refine lv_tableIn (tgt := 196) hx hb dL_law_40 (by rw [c0]; decide) (by rw [c0]; decide) (by rw [c0]; rfl) (by decide) ?_
    exact lc_feed I hK hB hJ hl hin hcs0 k0
  by_cases c1 : (w &&& 63) = 1
  · refine lv_tableIn (tgt := 343) hx hb dL_law_40 (by rw [c1]; decide) (by rw [c1]; decide) (by rw [c1]; rfl) (by decide) ?_
    exact lc_land I hK hB hJ hl hin hcs0 k0
  by_cases c2 : (w &&& 63) = 2
  · refine lv_tableIn (tgt := 356) hx hb dL_law_40 (by rw [c2]; decide) (by rw [c2]; decide) (by rw [c2]; rfl) (by decide) ?_
    exact lc_vows I hK hB hJ hl hin hcs0 k0
  by_cases c3 : (w &&& 63) = 3
  · refine lv_tableIn (tgt := 369) hx hb dL_law_40 (by rw [c3]; decide) (by rw [c3]; decide) (by rw [c3]; rfl) (by decide) ?_
    exact lc_will I hK hB hJ hl hin hcs0 k0
  by_cases c4 : (w &&& 63) = 4
  · refine lv_tableIn (tgt := 382) hx hb dL_law_40 (by rw [c4]; decide) (by rw [c4]; decide) (by rw [c4]; rfl) (by decide) ?_
    exact lc_river I hK hB hJ hl hin hcs kk hst hX1
  by_cases c5 : (w &&& 63) = 5
  · refine lv_tableIn (tgt := 422) hx hb dL_law_40 (by rw [c5]; decide) (by rw [c5]; decide) (by rw [c5]; rfl) (by decide) ?_
    exact lc_flow I hK hB hJ hl hin hcs0 k0
  by_cases c6 : (w &&& 63) = 6
  · refine lv_tableIn (tgt := 471) hx hb dL_law_40 (by rw [c6]; decide) (by rw [c6]; decide) (by rw [c6]; rfl) (by decide) ?_
    exact lc_needs I hK hB hJ hl hin hcs0 k0
  by_cases c7 : (w &&& 63) = 7
  · refine lv_tableIn (tgt := 496) hx hb dL_law_40 (by rw [c7]; decide) (by rw [c7]; decide) (by rw [c7]; rfl) (by decide) ?_
    exact lc_near I hK hB hJ hl hin hcs0 k0
  by_cases c8 : (w &&& 63) = 8
  · refine lv_tableIn (tgt := 533) hx hb dL_law_40 (by rw [c8]; decide) (by rw [c8]; decide) (by rw [c8]; rfl) (by decide) ?_
    exact lc_dig I hK hB hJ hl hin hcs0 k0
  by_cases c9 : (w &&& 63) = 9
  · refine lv_tableIn (tgt := 570) hx hb dL_law_40 (by rw [c9]; decide) (by rw [c9]; decide) (by rw [c9]; rfl) (by decide) ?_
    exact lc_may I hK hB hJ hl hin hcs0 k0
  by_cases c10 : (w &&& 63) = 10
  · refine lv_tableIn (tgt := 595) hx hb dL_law_40 (by rw [c10]; decide) (by rw [c10]; decide) (by rw [c10]; rfl) (by decide) ?_
    exact lc_ends I hK hB hJ hl hin hcs0 k0
  by_cases c11 : (w &&& 63) = 11
  · refine lv_tableIn (tgt := 608) hx hb dL_law_40 (by rw [c11]; decide) (by rw [c11]; decide) (by rw [c11]; rfl) (by decide) ?_
    exact lc_wed I hK hB hJ hl hin hcs0 k0
  by_cases c12 : (w &&& 63) = 12
  · refine lv_tableIn (tgt := 645) hx hb dL_law_40 (by rw [c12]; decide) (by rw [c12]; decide) (by rw [c12]; rfl) (by decide) ?_
    exact lc_part I hK hB hJ hl hin hcs0 k0
  by_cases c13 : (w &&& 63) = 13
  · refine lv_tableIn (tgt := 670) hx hb dL_law_40 (by rw [c13]; decide) (by rw [c13]; decide) (by rw [c13]; rfl) (by decide) ?_
    exact lc_seasons I hK hB hJ hl hin hcs0 k0
  by_cases c14 : (w &&& 63) = 14
  · refine lv_tableIn (tgt := 695) hx hb dL_law_40 (by rw [c14]; decide) (by rw [c14]; decide) (by rw [c14]; rfl) (by decide) ?_
    exact lc_undo I hK hB hJ hl hin hcs0 k0
  by_cases c15 : (w &&& 63) = 15
  · refine lv_tableIn (tgt := 708) hx hb dL_law_40 (by rw [c15]; decide) (by rw [c15]; decide) (by rw [c15]; rfl) (by decide) ?_
    exact lc_judged I hK hB hJ hl hin hcs0 k0
  by_cases c16 : (w &&& 63) = 16
  · refine lv_tableIn (tgt := 733) hx hb dL_law_40 (by rw [c16]; decide) (by rw [c16]; decide) (by rw [c16]; rfl) (by decide) ?_
    exact lc_worn I hK hB hJ hl hin hcs0 k0
  by_cases c17 : (w &&& 63) = 17
  · refine lv_tableIn (tgt := 770) hx hb dL_law_40 (by rw [c17]; decide) (by rw [c17]; decide) (by rw [c17]; rfl) (by decide) ?_
    exact lc_love I hK hB hJ hl hin hcs0 k0
  by_cases c18 : (w &&& 63) = 18
  · refine lv_tableIn (tgt := 795) hx hb dL_law_40 (by rw [c18]; decide) (by rw [c18]; decide) (by rw [c18]; rfl) (by decide) ?_
    exact lc_hyphen I hK hB hJ hl hin hcs0 k0
  by_cases c19 : (w &&& 63) = 19
  · refine lv_tableIn (tgt := 820) hx hb dL_law_40 (by rw [c19]; decide) (by rw [c19]; decide) (by rw [c19]; rfl) (by decide) ?_
    exact lc_match I hK hB hJ hl hin hcs0 k0
  by_cases c20 : (w &&& 63) = 20
  · refine lv_tableIn (tgt := 845) hx hb dL_law_40 (by rw [c20]; decide) (by rw [c20]; decide) (by rw [c20]; rfl) (by decide) ?_
    exact lc_chain I hK hB hJ hl hin hcs0 k0
  by_cases c21 : (w &&& 63) = 21
  · refine lv_tableIn (tgt := 894) hx hb dL_law_40 (by rw [c21]; decide) (by rw [c21]; decide) (by rw [c21]; rfl) (by decide) ?_
    exact lc_peace I hK hB hJ hl hin hcs0 k0
  by_cases c22 : (w &&& 63) = 22
  · refine lv_tableIn (tgt := 907) hx hb dL_law_40 (by rw [c22]; decide) (by rw [c22]; decide) (by rw [c22]; rfl) (by decide) ?_
    exact lc_cathedral I hK hB hJ hl hin hcs0 k0
  by_cases c23 : (w &&& 63) = 23
  · refine lv_tableIn (tgt := 932) hx hb dL_law_40 (by rw [c23]; decide) (by rw [c23]; decide) (by rw [c23]; rfl) (by decide) ?_
    exact lc_eddies I hK hB hJ hl hin hcs0 k0
  by_cases c24 : (w &&& 63) = 24
  · refine lv_tableIn (tgt := 945) hx hb dL_law_40 (by rw [c24]; decide) (by rw [c24]; decide) (by rw [c24]; rfl) (by decide) ?_
    exact lc_worst I hK hB hJ hl hin hcs kk hst hX2
  by_cases c25 : (w &&& 63) = 25
  · refine lv_tableIn (tgt := 985) hx hb dL_law_40 (by rw [c25]; decide) (by rw [c25]; decide) (by rw [c25]; rfl) (by decide) ?_
    exact lc_share I hK hB hJ hl hin hcs0 k0
  by_cases c26 : (w &&& 63) = 26
  · refine lv_tableIn (tgt := 1034) hx hb dL_law_40 (by rw [c26]; decide) (by rw [c26]; decide) (by rw [c26]; rfl) (by decide) ?_
    exact lc_storms I hK hB hJ hl hin hcs0 k0
  by_cases c27 : (w &&& 63) = 27
  · refine lv_tableIn (tgt := 1071) hx hb dL_law_40 (by rw [c27]; decide) (by rw [c27]; decide) (by rw [c27]; rfl) (by decide) ?_
    exact lc_walls I hK hB hJ hl hin hcs0 k0
  by_cases c28 : (w &&& 63) = 28
  · refine lv_tableIn (tgt := 1120) hx hb dL_law_40 (by rw [c28]; decide) (by rw [c28]; decide) (by rw [c28]; rfl) (by decide) ?_
    exact lc_tell I hK hB hJ hl hin hcs0 k0
  by_cases c29 : (w &&& 63) = 29
  · refine lv_tableIn (tgt := 1169) hx hb dL_law_40 (by rw [c29]; decide) (by rw [c29]; decide) (by rw [c29]; rfl) (by decide) ?_
    exact lc_found I hK hB hJ hl hin hcs0 k0
  by_cases c30 : (w &&& 63) = 30
  · refine lv_tableIn (tgt := 1194) hx hb dL_law_40 (by rw [c30]; decide) (by rw [c30]; decide) (by rw [c30]; rfl) (by decide) ?_
    exact lc_rests I hK hB hJ hl hin hcs0 k0
  by_cases c31 : (w &&& 63) = 31
  · refine lv_tableIn (tgt := 1255) hx hb dL_law_40 (by rw [c31]; decide) (by rw [c31]; decide) (by rw [c31]; rfl) (by decide) ?_
    exact lc_dams I hK hB hJ hl hin hcs0 k0
  by_cases c32 : (w &&& 63) = 32
  · refine lv_tableIn (tgt := 1304) hx hb dL_law_40 (by rw [c32]; decide) (by rw [c32]; decide) (by rw [c32]; rfl) (by decide) ?_
    exact lc_centuries I hK hB hJ hl hin hcs0 k0
  by_cases c33 : (w &&& 63) = 33
  · refine lv_tableIn (tgt := 1353) hx hb dL_law_40 (by rw [c33]; decide) (by rw [c33]; decide) (by rw [c33]; rfl) (by decide) ?_
    exact lc_mark I hK hB hJ hl hin hcs0 k0
  by_cases c34 : (w &&& 63) = 34
  · refine lv_tableIn (tgt := 1406) hx hb dL_law_40 (by rw [c34]; decide) (by rw [c34]; decide) (by rw [c34]; rfl) (by decide) ?_
    exact lc_count I hK hB hJ hl hin hcs0 k0
  refine lv_tableOut (tgt := 1431) hx hb dL_law_40 (lw_outs w ?_) (by decide) ?_
  · intro n hn
    match n, hn with
    | 0, _ => exact c0
    | 1, _ => exact c1
    | 2, _ => exact c2
    | 3, _ => exact c3
    | 4, _ => exact c4
    | 5, _ => exact c5
    | 6, _ => exact c6
    | 7, _ => exact c7
    | 8, _ => exact c8
    | 9, _ => exact c9
    | 10, _ => exact c10
    | 11, _ => exact c11
    | 12, _ => exact c12
    | 13, _ => exact c13
    | 14, _ => exact c14
    | 15, _ => exact c15
    | 16, _ => exact c16
    | 17, _ => exact c17
    | 18, _ => exact c18
    | 19, _ => exact c19
    | 20, _ => exact c20
    | 21, _ => exact c21
    | 22, _ => exact c22
    | 23, _ => exact c23
    | 24, _ => exact c24
    | 25, _ => exact c25
    | 26, _ => exact c26
    | 27, _ => exact c27
    | 28, _ => exact c28
    | 29, _ => exact c29
    | 30, _ => exact c30
    | 31, _ => exact c31
    | 32, _ => exact c32
    | 33, _ => exact c33
    | 34, _ => exact c34
    | n + 35, h => exact absurd h (by omega)
  · exact k0 aC bC v aM bM g H locs ls hB.mono hJ hl
theorem lw_loop {p : Program} {l : Launch} {e : Env} {s : State} {m : MethodId} {below : List Frame} {meth : Method} {c : Code} {b L : Nat} {xs : Nat → Int32} {A : Nat → Prop} {D : va_G} {k : Nat → ClassId} {qC qM : Nat → Nat} {out : Nat} (I : lw_In p s m meth c b L xs A D k qC qM) (hL : L ≤ 3584) (hst : l.stackTraces = false) {sa1 sa2 : Nat} (hX1 : pX 193 "no such river, or nothing such of it" sa1 A s) (hX2 : pX 351 "no such town, or nothing such of it" sa2 A s) : ∀ (n K cells slots : Nat) (aC : Nat → Nat → Int32) (bC : Nat → Nat → Int64) (v : Nat → Option Nat) (aM : Nat → Nat → Int32) (bM : Nat → Nat → Int64) (g : Nat → Int64) (H : Heap) (locs : List Loc) (ls : Array Slot), K + n = 512 → cells + n ≤ 601024 → slots + 6 * n ≤ 7293033 → IB K aC v aM bM → lw_J s A D k qC qM out (cH aC bC v) (mH aM bM) g H locs → lv_has ls 7 [(4, .int (nI (7 * K))), (3, .ref out), (2, .ref (qM 0)), (1, .ref (qC 0)), (0, .ref b)] → W p l e room_1 s m #[Value.ref b] below meth c H locs cells slots (lw_Z below #[Value.ref b] s) (F0 m 23 ls []) := by
  obtain ⟨⟨hx, hb, hr, hml, hown, -, hX, hbl, hlocks, hgv⟩, -, -, -, -, -, hAf⟩ := id I
  have hbA : ¬ A b := fun h => absurd (hAf b h) (Nat.not_le.mpr hbl)
  intro n
  induction n with
  | zero =>
    intro K cells slots aC bC v aM bM g H locs ls hKn hc hs hB hJ hl
    refine lv_iload hx hb dL_law_23 (lv_at hl 0 rfl) ?_
    refine lv_aload_n hx hb dL_law_25 rfl (lv_at hl 4 rfl) ?_
    refine va_slen hx hb hX hbl hbA hJ.2.2 dL_law_26 ?_
    refine lv_bipush (v := 7) hx hb dL_law_27 (by decide) ?_
    refine lv_isub hx hb dL_law_29 ?_
    refine lv_icmp_gt (tgt := 1437) hx hb dL_law_30 (by decide) (fun _ => ?_) (fun h9 => absurd (lw_more hL (by omega) h9) (by omega))
    refine lv_iconst (v := 1) hx hb dL_law_1437 (by decide) ?_
    refine va_forget (fun q hq => hAf _ (hJ.2.2.2.2 q hq)) ?_
    refine W.widen (k := 601024) (n := 7293033) (by omega) (by omega) ?_
    exact lw_ret hx hb hr hlocks dL_law_1438
  | succ n ih =>
    intro K cells slots aC bC v aM bM g H locs ls hKn hc hs hB hJ hl
    refine lv_iload hx hb dL_law_23 (lv_at hl 0 rfl) ?_
    refine lv_aload_n hx hb dL_law_25 rfl (lv_at hl 4 rfl) ?_
    refine va_slen hx hb hX hbl hbA hJ.2.2 dL_law_26 ?_
    refine lv_bipush (v := 7) hx hb dL_law_27 (by decide) ?_
    refine lv_isub hx hb dL_law_29 ?_
    refine lv_icmp_gt (tgt := 1437) hx hb dL_law_30 (by decide) (fun _ => ?_) (fun h9 => ?_)
    · refine lv_iconst (v := 1) hx hb dL_law_1437 (by decide) ?_
      refine va_forget (fun q hq => hAf _ (hJ.2.2.2.2 q hq)) ?_
      refine W.widen (k := 601024) (n := 7293033) (by omega) (by omega) ?_
      exact lw_ret hx hb hr hlocks dL_law_1438
    · have h7 := lw_more hL (by omega) h9
      refine lw_one I (by omega) hB hJ hl (lw_inB h7 hL) ⟨by omega, by omega⟩ hst hX1 hX2 ?_
      intro aC1 bC1 v1 aM1 bM1 g1 H1 locs1 ls1 hB1 hJ1 hl1
      refine lv_iinc (k := 0) (v := nI (7 * (K + 1))) (lv' := [(4, .int (nI (7 * (K + 1)))), (3, .ref out), (2, .ref (qM 0)), (1, .ref (qC 0)), (0, .ref b)]) hx hb dL_law_1431 hl1 rfl (lw_next (by omega)) (by decide) rfl (fun ls2 hl2 => ?_)
      refine lv_goto (tgt := 23) hx hb dL_law_1434 (by decide) ?_
      exact ih (K + 1) (cells + 1) (slots + 6) aC1 bC1 v1 aM1 bM1 g1 H1 locs1 ls2 (by omega) (by omega) (by omega) hB1 hJ1 hl2
