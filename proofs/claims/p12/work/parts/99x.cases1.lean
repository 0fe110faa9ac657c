set_option maxHeartbeats 1000000 in
theorem lc_land {p : Program} {l : Launch} {e : Env} {s : State} {m : MethodId} {below : List Frame} {meth : Method} {c : Code} {H : Heap} {locs : List Loc} {cells slots : Nat} {Q : State → Prop} {ls : Array Slot} {b L : Nat} {xs : Nat → Int32} {A : Nat → Prop} {D : va_G} {k : Nat → ClassId} {qC qM : Nat → Nat} {out : Nat} {g : Nat → Int64} (I : lw_In p s m meth c b L xs A D k qC qM) {K : Nat} (hK : K ≤ 600) {aC : Nat → Nat → Int32} {bC : Nat → Nat → Int64} {v : Nat → Option Nat} {aM : Nat → Nat → Int32} {bM : Nat → Nat → Int64} (hB : IB K aC v aM bM) (hJ : lw_J s A D k qC qM out (cH aC bC v) (mH aM bM) g H locs) {i : Int32} (hl : lv_has ls 7 [(4, .int i), (3, .ref out), (2, .ref (qM 0)), (1, .ref (qC 0)), (0, .ref b)]) (hin : ∀ jv : Int32, 0 ≤ jv.toInt → jv.toInt ≤ 6 → vp_in (i + jv) L) (hcs : cells ≤ 601024 ∧ slots ≤ 7293033) (kk : lw_K p l e s m b below meth c cells slots Q A D k qC qM out (K + 1) i) : W p l e room_1 s m #[Value.ref b] below meth c H locs cells slots Q (F0 m 343 ls []) := by
  obtain ⟨hx, hb, hr, hml, hown, -⟩ := id I.1
  refine lv_aload_n hx hb dL_law_343 rfl (lv_at hl 3 rfl) ?_
  refine lw_doC I hJ mtC_99 (pc_land hK aC bC v  hB.1 hB.2.2.hf) ⟨rfl, (by decide : (parseMethodDescriptor yX12_land.desc).map (fun d => d.parameters.length) = some 0)⟩ (lw_ws lm_11 lm_12 lm_13 lm_4 lm_14) (by decide) (by decide) dL_law_344 hl.1 rfl (by decide) hcs ?_
  intro aC1 bC1 v1 x1 H1 locs1 hI1 hp1 hJ1
  refine lv_pop hx hb dL_law_347 rfl ?_
  refine lv_aload_n hx hb dL_law_348 rfl (lv_at hl 2 rfl) ?_
  refine lw_doM I hJ1 mtM_22 (pm_land hK aM bM  hB.2.1 hB.2.2.1 (aC 2) hB.2.2.tt) ⟨rfl, (by decide : (parseMethodDescriptor yX13_land.desc).map (fun d => d.parameters.length) = some 0)⟩ (lw_ws lm_15 lm_16 lm_17 lm_9 lm_18) (by decide) (by decide) dL_law_349 hl.1 rfl (by decide) hcs ?_
  intro aM1 bM1 x2 H2 locs2 hI2 hz5 hp2 hJ2
  refine lv_pop hx hb dL_law_352 rfl ?_
  refine lv_goto (tgt := 1431) hx hb dL_law_353 (by decide) ?_
  exact kk aC1 bC1 v1 aM1 bM1 g H2 locs2 ls ⟨hI1, hI2, hB.2.2.zero hp1.1 hp2.1 (hB.2.2.2.2.2.1.lnd (hB.2.2.lnd hp1.2.2 hp2.2.2) hp1.2.1.1 hp2.2.1.1) (hB.2.2.2.2.2.2.lnd hB.2.2 hp1.2.1.2 hp2.2.1.2 hp1.2.2 hp2.2.2) hz5⟩ hJ2 hl
set_option maxHeartbeats 1000000 in
theorem lc_will {p : Program} {l : Launch} {e : Env} {s : State} {m : MethodId} {below : List Frame} {meth : Method} {c : Code} {H : Heap} {locs : List Loc} {cells slots : Nat} {Q : State → Prop} {ls : Array Slot} {b L : Nat} {xs : Nat → Int32} {A : Nat → Prop} {D : va_G} {k : Nat → ClassId} {qC qM : Nat → Nat} {out : Nat} {g : Nat → Int64} (I : lw_In p s m meth c b L xs A D k qC qM) {K : Nat} (hK : K ≤ 600) {aC : Nat → Nat → Int32} {bC : Nat → Nat → Int64} {v : Nat → Option Nat} {aM : Nat → Nat → Int32} {bM : Nat → Nat → Int64} (hB : IB K aC v aM bM) (hJ : lw_J s A D k qC qM out (cH aC bC v) (mH aM bM) g H locs) {i : Int32} (hl : lv_has ls 7 [(4, .int i), (3, .ref out), (2, .ref (qM 0)), (1, .ref (qC 0)), (0, .ref b)]) (hin : ∀ jv : Int32, 0 ≤ jv.toInt → jv.toInt ≤ 6 → vp_in (i + jv) L) (hcs : cells ≤ 601024 ∧ slots ≤ 7293033) (kk : lw_K p l e s m b below meth c cells slots Q A D k qC qM out (K + 1) i) : W p l e room_1 s m #[Value.ref b] below meth c H locs cells slots Q (F0 m 369 ls []) := by
  obtain ⟨hx, hb, hr, hml, hown, -⟩ := id I.1
  refine lv_aload_n hx hb dL_law_369 rfl (lv_at hl 3 rfl) ?_
  refine lw_doC I hJ mtC_102 (pc_will hK aC bC v  hB.1 hB.2.2.hf) ⟨rfl, (by decide : (parseMethodDescriptor yX12_will.desc).map (fun d => d.parameters.length) = some 0)⟩ (lw_ws lm_27 lm_28 lm_29 lm_4 lm_30) (by decide) (by decide) dL_law_370 hl.1 rfl (by decide) hcs ?_
  intro aC1 bC1 v1 x1 H1 locs1 hI1 hp1 hJ1
  refine lv_pop hx hb dL_law_373 rfl ?_
  refine lv_aload_n hx hb dL_law_374 rfl (lv_at hl 2 rfl) ?_
  refine lw_doM I hJ1 mtM_28 (pm_will hK aM bM  hB.2.1 hB.2.2.1) ⟨rfl, (by decide : (parseMethodDescriptor yX13_will.desc).map (fun d => d.parameters.length) = some 0)⟩ (lw_ws lm_31 lm_32 lm_33 lm_9 lm_34) (by decide) (by decide) dL_law_375 hl.1 rfl (by decide) hcs ?_
  intro aM1 bM1 x2 H2 locs2 hI2 hz5 hp2 hJ2
  refine lv_pop hx hb dL_law_378 rfl ?_
  refine lv_goto (tgt := 1431) hx hb dL_law_379 (by decide) ?_
  exact kk aC1 bC1 v1 aM1 bM1 g H2 locs2 ls ⟨hI1, hI2, hB.2.2.zero hp1.1 hp2.1 (hB.2.2.2.2.2.1.kp hp1.2.1.1 hp2.2.1.1) (hB.2.2.2.2.2.2.kp hp1.2.1.2 hp2.2.1.2) hz5⟩ hJ2 hl
set_option maxHeartbeats 1000000 in
theorem lc_needs {p : Program} {l : Launch} {e : Env} {s : State} {m : MethodId} {below : List Frame} {meth : Method} {c : Code} {H : Heap} {locs : List Loc} {cells slots : Nat} {Q : State → Prop} {ls : Array Slot} {b L : Nat} {xs : Nat → Int32} {A : Nat → Prop} {D : va_G} {k : Nat → ClassId} {qC qM : Nat → Nat} {out : Nat} {g : Nat → Int64} (I : lw_In p s m meth c b L xs A D k qC qM) {K : Nat} (hK : K ≤ 600) {aC : Nat → Nat → Int32} {bC : Nat → Nat → Int64} {v : Nat → Option Nat} {aM : Nat → Nat → Int32} {bM : Nat → Nat → Int64} (hB : IB K aC v aM bM) (hJ : lw_J s A D k qC qM out (cH aC bC v) (mH aM bM) g H locs) {i : Int32} (hl : lv_has ls 7 [(4, .int i), (3, .ref out), (2, .ref (qM 0)), (1, .ref (qC 0)), (0, .ref b)]) (hin : ∀ jv : Int32, 0 ≤ jv.toInt → jv.toInt ≤ 6 → vp_in (i + jv) L) (hcs : cells ≤ 601024 ∧ slots ≤ 7293033) (kk : lw_K p l e s m b below meth c cells slots Q A D k qC qM out (K + 1) i) : W p l e room_1 s m #[Value.ref b] below meth c H locs cells slots Q (F0 m 471 ls []) := by
  obtain ⟨hx, hb, hr, hml, hown, -⟩ := id I.1
  refine lv_aload_n hx hb dL_law_471 rfl (lv_at hl 3 rfl) ?_
  refine lw_arg I hJ.2.2 (lv_at hl 4 rfl) (lv_at hl 0 rfl) (hin 1 (by decide) (by decide)) dL_law_472 dL_law_473 dL_law_475 dL_law_476 dL_law_477 (by decide) ?_
  refine lw_doC I hJ mtC_113 (pc_needs hK aC bC v (xs (i + 1).toNatClampNeg) hB.1) ⟨rfl, (by decide : (parseMethodDescriptor yX12_needs.desc).map (fun d => d.parameters.length) = some 1)⟩ (lw_ws lm_43 lm_44 lm_45 lm_4 lm_46) (by decide) (by decide) dL_law_478 hl.1 rfl (by decide) hcs ?_
  intro aC1 bC1 v1 x1 H1 locs1 hI1 hp1 hJ1
  refine lv_pop hx hb dL_law_481 rfl ?_
  refine lv_aload_n hx hb dL_law_482 rfl (lv_at hl 2 rfl) ?_
  refine lw_arg I hJ1.2.2 (lv_at hl 4 rfl) (lv_at hl 0 rfl) (hin 1 (by decide) (by decide)) dL_law_483 dL_law_484 dL_law_486 dL_law_487 dL_law_488 (by decide) ?_
  refine lw_doM I hJ1 mtM_61 (pm_needs hK aM bM (xs (i + 1).toNatClampNeg) hB.2.1) ⟨rfl, (by decide : (parseMethodDescriptor yX13_needs.desc).map (fun d => d.parameters.length) = some 1)⟩ (lw_ws lm_47 lm_48 lm_49 lm_9 lm_50) (by decide) (by decide) dL_law_489 hl.1 rfl (by decide) hcs ?_
  intro aM1 bM1 x2 H2 locs2 hI2 hz5 hp2 hJ2
  refine lv_pop hx hb dL_law_492 rfl ?_
  refine lv_goto (tgt := 1431) hx hb dL_law_493 (by decide) ?_
  exact kk aC1 bC1 v1 aM1 bM1 g H2 locs2 ls ⟨hI1, hI2, (hB.2.2.keepC hp1).keepM hp2 hz5⟩ hJ2 hl
set_option maxHeartbeats 1000000 in
theorem lc_dig {p : Program} {l : Launch} {e : Env} {s : State} {m : MethodId} {below : List Frame} {meth : Method} {c : Code} {H : Heap} {locs : List Loc} {cells slots : Nat} {Q : State → Prop} {ls : Array Slot} {b L : Nat} {xs : Nat → Int32} {A : Nat → Prop} {D : va_G} {k : Nat → ClassId} {qC qM : Nat → Nat} {out : Nat} {g : Nat → Int64} (I : lw_In p s m meth c b L xs A D k qC qM) {K : Nat} (hK : K ≤ 600) {aC : Nat → Nat → Int32} {bC : Nat → Nat → Int64} {v : Nat → Option Nat} {aM : Nat → Nat → Int32} {bM : Nat → Nat → Int64} (hB : IB K aC v aM bM) (hJ : lw_J s A D k qC qM out (cH aC bC v) (mH aM bM) g H locs) {i : Int32} (hl : lv_has ls 7 [(4, .int i), (3, .ref out), (2, .ref (qM 0)), (1, .ref (qC 0)), (0, .ref b)]) (hin : ∀ jv : Int32, 0 ≤ jv.toInt → jv.toInt ≤ 6 → vp_in (i + jv) L) (hcs : cells ≤ 601024 ∧ slots ≤ 7293033) (kk : lw_K p l e s m b below meth c cells slots Q A D k qC qM out (K + 1) i) : W p l e room_1 s m #[Value.ref b] below meth c H locs cells slots Q (F0 m 533 ls []) := by
  obtain ⟨hx, hb, hr, hml, hown, -⟩ := id I.1
  obtain ⟨L9, V9, c1, c2, c3, c4, c5, c6⟩ := hB.2.2.2.2.2.2
  refine lv_aload_n hx hb dL_law_533 rfl (lv_at hl 3 rfl) ?_
  refine lw_arg I hJ.2.2 (lv_at hl 4 rfl) (lv_at hl 0 rfl) (hin 1 (by decide) (by decide)) dL_law_534 dL_law_535 dL_law_537 dL_law_538 dL_law_539 (by decide) ?_
  refine lw_arg I hJ.2.2 (lv_at hl 4 rfl) (lv_at hl 0 rfl) (hin 2 (by decide) (by decide)) dL_law_540 dL_law_541 dL_law_543 dL_law_544 dL_law_545 (by decide) ?_
  refine lw_doC I hJ mtC_115 (pc_dig hK aC bC v (xs (i + 1).toNatClampNeg) (xs (i + 2).toNatClampNeg) hB.1 L9 V9 c1 c2 c3 c5) ⟨rfl, (by decide : (parseMethodDescriptor yX12_dig.desc).map (fun d => d.parameters.length) = some 2)⟩ (lw_ws lm_59 lm_60 lm_61 lm_4 lm_62) (by decide) (by decide) dL_law_546 hl.1 rfl (by decide) hcs ?_
  intro aC1 bC1 v1 x1 H1 locs1 hI1 hp1 hJ1
  refine lv_pop hx hb dL_law_549 rfl ?_
  refine lv_aload_n hx hb dL_law_550 rfl (lv_at hl 2 rfl) ?_
  refine lw_arg I hJ1.2.2 (lv_at hl 4 rfl) (lv_at hl 0 rfl) (hin 1 (by decide) (by decide)) dL_law_551 dL_law_552 dL_law_554 dL_law_555 dL_law_556 (by decide) ?_
  refine lw_arg I hJ1.2.2 (lv_at hl 4 rfl) (lv_at hl 0 rfl) (hin 2 (by decide) (by decide)) dL_law_557 dL_law_558 dL_law_560 dL_law_561 dL_law_562 (by decide) ?_
  refine lw_doM I hJ1 mtM_66 (pm_dig hK aM bM (xs (i + 1).toNatClampNeg) (xs (i + 2).toNatClampNeg) hB.2.1 V9 c4 c5) ⟨rfl, (by decide : (parseMethodDescriptor yX13_dig.desc).map (fun d => d.parameters.length) = some 2)⟩ (lw_ws lm_63 lm_64 lm_65 lm_9 lm_66) (by decide) (by decide) dL_law_563 hl.1 rfl (by decide) hcs ?_
  intro aM1 bM1 x2 H2 locs2 hI2 hz5 hp2 hJ2
  refine lv_pop hx hb dL_law_566 rfl ?_
  refine lv_goto (tgt := 1431) hx hb dL_law_567 (by decide) ?_
  exact kk aC1 bC1 v1 aM1 bM1 g H2 locs2 ls ⟨hI1, hI2, hB.2.2.put hp1.1 hp2.1 (hB.2.2.2.2.2.1.kp hp1.2.1.1 hp2.2.1.1) (hB.2.2.2.2.2.2.kp hp1.2.1.2 hp2.2.1.2) hz5⟩ hJ2 hl
set_option maxHeartbeats 1000000 in
theorem lc_ends {p : Program} {l : Launch} {e : Env} {s : State} {m : MethodId} {below : List Frame} {meth : Method} {c : Code} {H : Heap} {locs : List Loc} {cells slots : Nat} {Q : State → Prop} {ls : Array Slot} {b L : Nat} {xs : Nat → Int32} {A : Nat → Prop} {D : va_G} {k : Nat → ClassId} {qC qM : Nat → Nat} {out : Nat} {g : Nat → Int64} (I : lw_In p s m meth c b L xs A D k qC qM) {K : Nat} (hK : K ≤ 600) {aC : Nat → Nat → Int32} {bC : Nat → Nat → Int64} {v : Nat → Option Nat} {aM : Nat → Nat → Int32} {bM : Nat → Nat → Int64} (hB : IB K aC v aM bM) (hJ : lw_J s A D k qC qM out (cH aC bC v) (mH aM bM) g H locs) {i : Int32} (hl : lv_has ls 7 [(4, .int i), (3, .ref out), (2, .ref (qM 0)), (1, .ref (qC 0)), (0, .ref b)]) (hin : ∀ jv : Int32, 0 ≤ jv.toInt → jv.toInt ≤ 6 → vp_in (i + jv) L) (hcs : cells ≤ 601024 ∧ slots ≤ 7293033) (kk : lw_K p l e s m b below meth c cells slots Q A D k qC qM out (K + 1) i) : W p l e room_1 s m #[Value.ref b] below meth c H locs cells slots Q (F0 m 595 ls []) := by
  obtain ⟨hx, hb, hr, hml, hown, -⟩ := id I.1
  obtain ⟨L9, V9, c1, c2, c3, c4, c5, c6⟩ := hB.2.2.2.2.2.2
  refine lv_aload_n hx hb dL_law_595 rfl (lv_at hl 3 rfl) ?_
  refine lw_doC I hJ mtC_117 (pc_ends hK aC bC v  hB.1 L9 V9 c1 c2 c3 c5 c6) ⟨rfl, (by decide : (parseMethodDescriptor yX12_ends.desc).map (fun d => d.parameters.length) = some 0)⟩ (lw_ws lm_75 lm_76 lm_77 lm_4 lm_78) (by decide) (by decide) dL_law_596 hl.1 rfl (by decide) hcs ?_
  intro aC1 bC1 v1 x1 H1 locs1 hI1 hp1 hJ1
  refine lv_aload_n hx hb dL_law_599 rfl (lv_at hl 2 rfl) ?_
  refine lw_doM I hJ1 mtM_70 (pm_ends hK aM bM  hB.2.1 V9 c4 c5) ⟨rfl, (by decide : (parseMethodDescriptor yX13_ends.desc).map (fun d => d.parameters.length) = some 0)⟩ (lw_ws lm_79 lm_80 lm_81 lm_9 lm_82) (by decide) (by decide) dL_law_600 hl.1 rfl (show 1 ≤ 16 by decide) hcs ?_
  intro aM1 bM1 x2 H2 locs2 hI2 hz5 hp2 hJ2
  have hf : x1 = x2 := hp1.2.2.trans hp2.2.2.symm
  refine lv_icmp_eq (tgt := 1431) hx hb dL_law_603 (by decide) (fun _ => ?_) (fun h => absurd hf h)
  exact kk aC1 bC1 v1 aM1 bM1 g H2 locs2 ls ⟨hI1, hI2, hB.2.2.put hp1.1 hp2.1 (hB.2.2.2.2.2.1.kp hp1.2.1.1 hp2.2.1.1) (hB.2.2.2.2.2.2.kp hp1.2.1.2 hp2.2.1.2) hz5⟩ hJ2 hl
set_option maxHeartbeats 1000000 in
theorem lc_part {p : Program} {l : Launch} {e : Env} {s : State} {m : MethodId} {below : List Frame} {meth : Method} {c : Code} {H : Heap} {locs : List Loc} {cells slots : Nat} {Q : State → Prop} {ls : Array Slot} {b L : Nat} {xs : Nat → Int32} {A : Nat → Prop} {D : va_G} {k : Nat → ClassId} {qC qM : Nat → Nat} {out : Nat} {g : Nat → Int64} (I : lw_In p s m meth c b L xs A D k qC qM) {K : Nat} (hK : K ≤ 600) {aC : Nat → Nat → Int32} {bC : Nat → Nat → Int64} {v : Nat → Option Nat} {aM : Nat → Nat → Int32} {bM : Nat → Nat → Int64} (hB : IB K aC v aM bM) (hJ : lw_J s A D k qC qM out (cH aC bC v) (mH aM bM) g H locs) {i : Int32} (hl : lv_has ls 7 [(4, .int i), (3, .ref out), (2, .ref (qM 0)), (1, .ref (qC 0)), (0, .ref b)]) (hin : ∀ jv : Int32, 0 ≤ jv.toInt → jv.toInt ≤ 6 → vp_in (i + jv) L) (hcs : cells ≤ 601024 ∧ slots ≤ 7293033) (kk : lw_K p l e s m b below meth c cells slots Q A D k qC qM out (K + 1) i) : W p l e room_1 s m #[Value.ref b] below meth c H locs cells slots Q (F0 m 645 ls []) := by
  obtain ⟨hx, hb, hr, hml, hown, -⟩ := id I.1
  refine lv_aload_n hx hb dL_law_645 rfl (lv_at hl 3 rfl) ?_
  refine lw_arg I hJ.2.2 (lv_at hl 4 rfl) (lv_at hl 0 rfl) (hin 1 (by decide) (by decide)) dL_law_646 dL_law_647 dL_law_649 dL_law_650 dL_law_651 (by decide) ?_
  refine lw_doC I hJ mtC_120 (pc_part hK aC bC v (xs (i + 1).toNatClampNeg) hB.1) ⟨rfl, (by decide : (parseMethodDescriptor yX12_part.desc).map (fun d => d.parameters.length) = some 1)⟩ (lw_ws lm_91 lm_92 lm_93 lm_4 lm_94) (by decide) (by decide) dL_law_652 hl.1 rfl (by decide) hcs ?_
  intro aC1 bC1 v1 x1 H1 locs1 hI1 hp1 hJ1
  refine lv_pop hx hb dL_law_655 rfl ?_
  refine lv_aload_n hx hb dL_law_656 rfl (lv_at hl 2 rfl) ?_
  refine lw_arg I hJ1.2.2 (lv_at hl 4 rfl) (lv_at hl 0 rfl) (hin 1 (by decide) (by decide)) dL_law_657 dL_law_658 dL_law_660 dL_law_661 dL_law_662 (by decide) ?_
  refine lw_doM I hJ1 mtM_74 (pm_part hK aM bM (xs (i + 1).toNatClampNeg) hB.2.1) ⟨rfl, (by decide : (parseMethodDescriptor yX13_part.desc).map (fun d => d.parameters.length) = some 1)⟩ (lw_ws lm_95 lm_96 lm_97 lm_9 lm_98) (by decide) (by decide) dL_law_663 hl.1 rfl (by decide) hcs ?_
  intro aM1 bM1 x2 H2 locs2 hI2 hz5 hp2 hJ2
  refine lv_pop hx hb dL_law_666 rfl ?_
  refine lv_goto (tgt := 1431) hx hb dL_law_667 (by decide) ?_
  exact kk aC1 bC1 v1 aM1 bM1 g H2 locs2 ls ⟨hI1, hI2, (hB.2.2.keepC hp1).keepM hp2 hz5⟩ hJ2 hl
set_option maxHeartbeats 1000000 in
theorem lc_undo {p : Program} {l : Launch} {e : Env} {s : State} {m : MethodId} {below : List Frame} {meth : Method} {c : Code} {H : Heap} {locs : List Loc} {cells slots : Nat} {Q : State → Prop} {ls : Array Slot} {b L : Nat} {xs : Nat → Int32} {A : Nat → Prop} {D : va_G} {k : Nat → ClassId} {qC qM : Nat → Nat} {out : Nat} {g : Nat → Int64} (I : lw_In p s m meth c b L xs A D k qC qM) {K : Nat} (hK : K ≤ 600) {aC : Nat → Nat → Int32} {bC : Nat → Nat → Int64} {v : Nat → Option Nat} {aM : Nat → Nat → Int32} {bM : Nat → Nat → Int64} (hB : IB K aC v aM bM) (hJ : lw_J s A D k qC qM out (cH aC bC v) (mH aM bM) g H locs) {i : Int32} (hl : lv_has ls 7 [(4, .int i), (3, .ref out), (2, .ref (qM 0)), (1, .ref (qC 0)), (0, .ref b)]) (hin : ∀ jv : Int32, 0 ≤ jv.toInt → jv.toInt ≤ 6 → vp_in (i + jv) L) (hcs : cells ≤ 601024 ∧ slots ≤ 7293033) (kk : lw_K p l e s m b below meth c cells slots Q A D k qC qM out (K + 1) i) : W p l e room_1 s m #[Value.ref b] below meth c H locs cells slots Q (F0 m 695 ls []) := by
  obtain ⟨hx, hb, hr, hml, hown, -⟩ := id I.1
  refine lv_aload_n hx hb dL_law_695 rfl (lv_at hl 3 rfl) ?_
  refine lw_doC I hJ mtC_124 (pc_undo hK aC bC v  hB.1) ⟨rfl, (by decide : (parseMethodDescriptor yX12_undo.desc).map (fun d => d.parameters.length) = some 0)⟩ (lw_ws lm_107 lm_108 lm_109 lm_4 lm_110) (by decide) (by decide) dL_law_696 hl.1 rfl (by decide) hcs ?_
  intro aC1 bC1 v1 x1 H1 locs1 hI1 hp1 hJ1
  refine lv_pop hx hb dL_law_699 rfl ?_
  refine lv_aload_n hx hb dL_law_700 rfl (lv_at hl 2 rfl) ?_
  refine lw_doM I hJ1 mtM_77 (pm_undo hK aM bM  hB.2.1) ⟨rfl, (by decide : (parseMethodDescriptor yX13_undo.desc).map (fun d => d.parameters.length) = some 0)⟩ (lw_ws lm_111 lm_112 lm_113 lm_9 lm_114) (by decide) (by decide) dL_law_701 hl.1 rfl (by decide) hcs ?_
  intro aM1 bM1 x2 H2 locs2 hI2 hz5 hp2 hJ2
  refine lv_pop hx hb dL_law_704 rfl ?_
  refine lv_goto (tgt := 1431) hx hb dL_law_705 (by decide) ?_
  exact kk aC1 bC1 v1 aM1 bM1 g H2 locs2 ls ⟨hI1, hI2, (hB.2.2.keepC hp1).keepM hp2 hz5⟩ hJ2 hl
set_option maxHeartbeats 1000000 in
theorem lc_worn {p : Program} {l : Launch} {e : Env} {s : State} {m : MethodId} {below : List Frame} {meth : Method} {c : Code} {H : Heap} {locs : List Loc} {cells slots : Nat} {Q : State → Prop} {ls : Array Slot} {b L : Nat} {xs : Nat → Int32} {A : Nat → Prop} {D : va_G} {k : Nat → ClassId} {qC qM : Nat → Nat} {out : Nat} {g : Nat → Int64} (I : lw_In p s m meth c b L xs A D k qC qM) {K : Nat} (hK : K ≤ 600) {aC : Nat → Nat → Int32} {bC : Nat → Nat → Int64} {v : Nat → Option Nat} {aM : Nat → Nat → Int32} {bM : Nat → Nat → Int64} (hB : IB K aC v aM bM) (hJ : lw_J s A D k qC qM out (cH aC bC v) (mH aM bM) g H locs) {i : Int32} (hl : lv_has ls 7 [(4, .int i), (3, .ref out), (2, .ref (qM 0)), (1, .ref (qC 0)), (0, .ref b)]) (hin : ∀ jv : Int32, 0 ≤ jv.toInt → jv.toInt ≤ 6 → vp_in (i + jv) L) (hcs : cells ≤ 601024 ∧ slots ≤ 7293033) (kk : lw_K p l e s m b below meth c cells slots Q A D k qC qM out (K + 1) i) : W p l e room_1 s m #[Value.ref b] below meth c H locs cells slots Q (F0 m 733 ls []) := by
  obtain ⟨hx, hb, hr, hml, hown, -⟩ := id I.1
  refine lv_aload_n hx hb dL_law_733 rfl (lv_at hl 3 rfl) ?_
  refine lw_arg I hJ.2.2 (lv_at hl 4 rfl) (lv_at hl 0 rfl) (hin 1 (by decide) (by decide)) dL_law_734 dL_law_735 dL_law_737 dL_law_738 dL_law_739 (by decide) ?_
  refine lw_arg I hJ.2.2 (lv_at hl 4 rfl) (lv_at hl 0 rfl) (hin 2 (by decide) (by decide)) dL_law_740 dL_law_741 dL_law_743 dL_law_744 dL_law_745 (by decide) ?_
  refine lw_doC I hJ mtC_130 (pc_worn hK aC bC v (xs (i + 1).toNatClampNeg) (xs (i + 2).toNatClampNeg) hB.1) ⟨rfl, (by decide : (parseMethodDescriptor yX12_worn.desc).map (fun d => d.parameters.length) = some 2)⟩ (lw_ws lm_123 lm_124 lm_125 lm_4 lm_126) (by decide) (by decide) dL_law_746 hl.1 rfl (by decide) hcs ?_
  intro aC1 bC1 v1 x1 H1 locs1 hI1 hp1 hJ1
  refine lv_pop hx hb dL_law_749 rfl ?_
  refine lv_aload_n hx hb dL_law_750 rfl (lv_at hl 2 rfl) ?_
  refine lw_arg I hJ1.2.2 (lv_at hl 4 rfl) (lv_at hl 0 rfl) (hin 1 (by decide) (by decide)) dL_law_751 dL_law_752 dL_law_754 dL_law_755 dL_law_756 (by decide) ?_
  refine lw_arg I hJ1.2.2 (lv_at hl 4 rfl) (lv_at hl 0 rfl) (hin 2 (by decide) (by decide)) dL_law_757 dL_law_758 dL_law_760 dL_law_761 dL_law_762 (by decide) ?_
  refine lw_doM I hJ1 mtM_81 (pm_worn hK aM bM (xs (i + 1).toNatClampNeg) (xs (i + 2).toNatClampNeg) hB.2.1) ⟨rfl, (by decide : (parseMethodDescriptor yX13_worn.desc).map (fun d => d.parameters.length) = some 2)⟩ (lw_ws lm_127 lm_128 lm_129 lm_9 lm_130) (by decide) (by decide) dL_law_763 hl.1 rfl (by decide) hcs ?_
  intro aM1 bM1 x2 H2 locs2 hI2 hz5 hp2 hJ2
  refine lv_pop hx hb dL_law_766 rfl ?_
  refine lv_goto (tgt := 1431) hx hb dL_law_767 (by decide) ?_
  exact kk aC1 bC1 v1 aM1 bM1 g H2 locs2 ls ⟨hI1, hI2, (hB.2.2.keepC hp1).keepM hp2 hz5⟩ hJ2 hl
set_option maxHeartbeats 1000000 in
theorem lc_hyphen {p : Program} {l : Launch} {e : Env} {s : State} {m : MethodId} {below : List Frame} {meth : Method} {c : Code} {H : Heap} {locs : List Loc} {cells slots : Nat} {Q : State → Prop} {ls : Array Slot} {b L : Nat} {xs : Nat → Int32} {A : Nat → Prop} {D : va_G} {k : Nat → ClassId} {qC qM : Nat → Nat} {out : Nat} {g : Nat → Int64} (I : lw_In p s m meth c b L xs A D k qC qM) {K : Nat} (hK : K ≤ 600) {aC : Nat → Nat → Int32} {bC : Nat → Nat → Int64} {v : Nat → Option Nat} {aM : Nat → Nat → Int32} {bM : Nat → Nat → Int64} (hB : IB K aC v aM bM) (hJ : lw_J s A D k qC qM out (cH aC bC v) (mH aM bM) g H locs) {i : Int32} (hl : lv_has ls 7 [(4, .int i), (3, .ref out), (2, .ref (qM 0)), (1, .ref (qC 0)), (0, .ref b)]) (hin : ∀ jv : Int32, 0 ≤ jv.toInt → jv.toInt ≤ 6 → vp_in (i + jv) L) (hcs : cells ≤ 601024 ∧ slots ≤ 7293033) (kk : lw_K p l e s m b below meth c cells slots Q A D k qC qM out (K + 1) i) : W p l e room_1 s m #[Value.ref b] below meth c H locs cells slots Q (F0 m 795 ls []) := by
  obtain ⟨hx, hb, hr, hml, hown, -⟩ := id I.1
  refine lv_aload_n hx hb dL_law_795 rfl (lv_at hl 3 rfl) ?_
  refine lw_arg I hJ.2.2 (lv_at hl 4 rfl) (lv_at hl 0 rfl) (hin 1 (by decide) (by decide)) dL_law_796 dL_law_797 dL_law_799 dL_law_800 dL_law_801 (by decide) ?_
  refine lw_doC I hJ mtC_133 (pc_hyphen hK aC bC v (xs (i + 1).toNatClampNeg) hB.1) ⟨rfl, (by decide : (parseMethodDescriptor yX12_hyphen.desc).map (fun d => d.parameters.length) = some 1)⟩ (lw_ws lm_139 lm_140 lm_141 lm_4 lm_142) (by decide) (by decide) dL_law_802 hl.1 rfl (by decide) hcs ?_
  intro aC1 bC1 v1 x1 H1 locs1 hI1 hp1 hJ1
  refine lv_pop hx hb dL_law_805 rfl ?_
  refine lv_aload_n hx hb dL_law_806 rfl (lv_at hl 2 rfl) ?_
  refine lw_arg I hJ1.2.2 (lv_at hl 4 rfl) (lv_at hl 0 rfl) (hin 1 (by decide) (by decide)) dL_law_807 dL_law_808 dL_law_810 dL_law_811 dL_law_812 (by decide) ?_
  refine lw_doM I hJ1 mtM_83 (pm_hyphen hK aM bM (xs (i + 1).toNatClampNeg) hB.2.1) ⟨rfl, (by decide : (parseMethodDescriptor yX13_hyphen.desc).map (fun d => d.parameters.length) = some 1)⟩ (lw_ws lm_143 lm_144 lm_145 lm_9 lm_146) (by decide) (by decide) dL_law_813 hl.1 rfl (by decide) hcs ?_
  intro aM1 bM1 x2 H2 locs2 hI2 hz5 hp2 hJ2
  refine lv_pop hx hb dL_law_816 rfl ?_
  refine lv_goto (tgt := 1431) hx hb dL_law_817 (by decide) ?_
  exact kk aC1 bC1 v1 aM1 bM1 g H2 locs2 ls ⟨hI1, hI2, (hB.2.2.keepC hp1).keepM hp2 hz5⟩ hJ2 hl
set_option maxHeartbeats 1000000 in
theorem lc_chain {p : Program} {l : Launch} {e : Env} {s : State} {m : MethodId} {below : List Frame} {meth : Method} {c : Code} {H : Heap} {locs : List Loc} {cells slots : Nat} {Q : State → Prop} {ls : Array Slot} {b L : Nat} {xs : Nat → Int32} {A : Nat → Prop} {D : va_G} {k : Nat → ClassId} {qC qM : Nat → Nat} {out : Nat} {g : Nat → Int64} (I : lw_In p s m meth c b L xs A D k qC qM) {K : Nat} (hK : K ≤ 600) {aC : Nat → Nat → Int32} {bC : Nat → Nat → Int64} {v : Nat → Option Nat} {aM : Nat → Nat → Int32} {bM : Nat → Nat → Int64} (hB : IB K aC v aM bM) (hJ : lw_J s A D k qC qM out (cH aC bC v) (mH aM bM) g H locs) {i : Int32} (hl : lv_has ls 7 [(4, .int i), (3, .ref out), (2, .ref (qM 0)), (1, .ref (qC 0)), (0, .ref b)]) (hin : ∀ jv : Int32, 0 ≤ jv.toInt → jv.toInt ≤ 6 → vp_in (i + jv) L) (hcs : cells ≤ 601024 ∧ slots ≤ 7293033) (kk : lw_K p l e s m b below meth c cells slots Q A D k qC qM out (K + 1) i) : W p l e room_1 s m #[Value.ref b] below meth c H locs cells slots Q (F0 m 845 ls []) := by
  obtain ⟨hx, hb, hr, hml, hown, -⟩ := id I.1
  refine lv_aload_n hx hb dL_law_845 rfl (lv_at hl 3 rfl) ?_
  refine lw_arg I hJ.2.2 (lv_at hl 4 rfl) (lv_at hl 0 rfl) (hin 1 (by decide) (by decide)) dL_law_846 dL_law_847 dL_law_849 dL_law_850 dL_law_851 (by decide) ?_
  refine lw_arg I hJ.2.2 (lv_at hl 4 rfl) (lv_at hl 0 rfl) (hin 2 (by decide) (by decide)) dL_law_852 dL_law_853 dL_law_855 dL_law_856 dL_law_857 (by decide) ?_
  refine lw_arg I hJ.2.2 (lv_at hl 4 rfl) (lv_at hl 0 rfl) (hin 3 (by decide) (by decide)) dL_law_858 dL_law_859 dL_law_861 dL_law_862 dL_law_863 (by decide) ?_
  refine lw_doC I hJ mtC_135 (pc_chain hK aC bC v (xs (i + 1).toNatClampNeg) (xs (i + 2).toNatClampNeg) (xs (i + 3).toNatClampNeg) hB.1) ⟨rfl, (by decide : (parseMethodDescriptor yX12_chain.desc).map (fun d => d.parameters.length) = some 3)⟩ (lw_ws lm_155 lm_156 lm_157 lm_4 lm_158) (by decide) (by decide) dL_law_864 hl.1 rfl (by decide) hcs ?_
  intro aC1 bC1 v1 x1 H1 locs1 hI1 hp1 hJ1
  refine lv_pop hx hb dL_law_867 rfl ?_
  refine lv_aload_n hx hb dL_law_868 rfl (lv_at hl 2 rfl) ?_
  refine lw_arg I hJ1.2.2 (lv_at hl 4 rfl) (lv_at hl 0 rfl) (hin 1 (by decide) (by decide)) dL_law_869 dL_law_870 dL_law_872 dL_law_873 dL_law_874 (by decide) ?_
  refine lw_arg I hJ1.2.2 (lv_at hl 4 rfl) (lv_at hl 0 rfl) (hin 2 (by decide) (by decide)) dL_law_875 dL_law_876 dL_law_878 dL_law_879 dL_law_880 (by decide) ?_
  refine lw_arg I hJ1.2.2 (lv_at hl 4 rfl) (lv_at hl 0 rfl) (hin 3 (by decide) (by decide)) dL_law_881 dL_law_882 dL_law_884 dL_law_885 dL_law_886 (by decide) ?_
  refine lw_doM I hJ1 mtM_92 (pm_chain hK aM bM (xs (i + 1).toNatClampNeg) (xs (i + 2).toNatClampNeg) (xs (i + 3).toNatClampNeg) hB.2.1) ⟨rfl, (by decide : (parseMethodDescriptor yX13_chain.desc).map (fun d => d.parameters.length) = some 3)⟩ (lw_ws lm_159 lm_160 lm_161 lm_9 lm_162) (by decide) (by decide) dL_law_887 hl.1 rfl (by decide) hcs ?_
  intro aM1 bM1 x2 H2 locs2 hI2 hz5 hp2 hJ2
  refine lv_pop hx hb dL_law_890 rfl ?_
  refine lv_goto (tgt := 1431) hx hb dL_law_891 (by decide) ?_
  exact kk aC1 bC1 v1 aM1 bM1 g H2 locs2 ls ⟨hI1, hI2, (hB.2.2.keepC hp1).keepM hp2 hz5⟩ hJ2 hl
set_option maxHeartbeats 1000000 in
theorem lc_cathedral {p : Program} {l : Launch} {e : Env} {s : State} {m : MethodId} {below : List Frame} {meth : Method} {c : Code} {H : Heap} {locs : List Loc} {cells slots : Nat} {Q : State → Prop} {ls : Array Slot} {b L : Nat} {xs : Nat → Int32} {A : Nat → Prop} {D : va_G} {k : Nat → ClassId} {qC qM : Nat → Nat} {out : Nat} {g : Nat → Int64} (I : lw_In p s m meth c b L xs A D k qC qM) {K : Nat} (hK : K ≤ 600) {aC : Nat → Nat → Int32} {bC : Nat → Nat → Int64} {v : Nat → Option Nat} {aM : Nat → Nat → Int32} {bM : Nat → Nat → Int64} (hB : IB K aC v aM bM) (hJ : lw_J s A D k qC qM out (cH aC bC v) (mH aM bM) g H locs) {i : Int32} (hl : lv_has ls 7 [(4, .int i), (3, .ref out), (2, .ref (qM 0)), (1, .ref (qC 0)), (0, .ref b)]) (hin : ∀ jv : Int32, 0 ≤ jv.toInt → jv.toInt ≤ 6 → vp_in (i + jv) L) (hcs : cells ≤ 601024 ∧ slots ≤ 7293033) (kk : lw_K p l e s m b below meth c cells slots Q A D k qC qM out (K + 1) i) : W p l e room_1 s m #[Value.ref b] below meth c H locs cells slots Q (F0 m 907 ls []) := by
  obtain ⟨hx, hb, hr, hml, hown, -⟩ := id I.1
  refine lv_aload_n hx hb dL_law_907 rfl (lv_at hl 3 rfl) ?_
  refine lw_arg I hJ.2.2 (lv_at hl 4 rfl) (lv_at hl 0 rfl) (hin 1 (by decide) (by decide)) dL_law_908 dL_law_909 dL_law_911 dL_law_912 dL_law_913 (by decide) ?_
  refine lw_doC I hJ mtC_142 (pc_cathedral hK aC bC v (xs (i + 1).toNatClampNeg) hB.1) ⟨rfl, (by decide : (parseMethodDescriptor yX12_cathedral.desc).map (fun d => d.parameters.length) = some 1)⟩ (lw_ws lm_171 lm_172 lm_173 lm_4 lm_174) (by decide) (by decide) dL_law_914 hl.1 rfl (by decide) hcs ?_
  intro aC1 bC1 v1 x1 H1 locs1 hI1 hp1 hJ1
  refine lv_pop hx hb dL_law_917 rfl ?_
  refine lv_aload_n hx hb dL_law_918 rfl (lv_at hl 2 rfl) ?_
  refine lw_arg I hJ1.2.2 (lv_at hl 4 rfl) (lv_at hl 0 rfl) (hin 1 (by decide) (by decide)) dL_law_919 dL_law_920 dL_law_922 dL_law_923 dL_law_924 (by decide) ?_
  refine lw_doM I hJ1 mtM_94 (pm_cathedral hK aM bM (xs (i + 1).toNatClampNeg) hB.2.1) ⟨rfl, (by decide : (parseMethodDescriptor yX13_cathedral.desc).map (fun d => d.parameters.length) = some 1)⟩ (lw_ws lm_175 lm_176 lm_177 lm_9 lm_178) (by decide) (by decide) dL_law_925 hl.1 rfl (by decide) hcs ?_
  intro aM1 bM1 x2 H2 locs2 hI2 hz5 hp2 hJ2
  refine lv_pop hx hb dL_law_928 rfl ?_
  refine lv_goto (tgt := 1431) hx hb dL_law_929 (by decide) ?_
  exact kk aC1 bC1 v1 aM1 bM1 g H2 locs2 ls ⟨hI1, hI2, (hB.2.2.keepC hp1).keepM hp2 hz5⟩ hJ2 hl
set_option maxHeartbeats 1000000 in
theorem lc_share {p : Program} {l : Launch} {e : Env} {s : State} {m : MethodId} {below : List Frame} {meth : Method} {c : Code} {H : Heap} {locs : List Loc} {cells slots : Nat} {Q : State → Prop} {ls : Array Slot} {b L : Nat} {xs : Nat → Int32} {A : Nat → Prop} {D : va_G} {k : Nat → ClassId} {qC qM : Nat → Nat} {out : Nat} {g : Nat → Int64} (I : lw_In p s m meth c b L xs A D k qC qM) {K : Nat} (hK : K ≤ 600) {aC : Nat → Nat → Int32} {bC : Nat → Nat → Int64} {v : Nat → Option Nat} {aM : Nat → Nat → Int32} {bM : Nat → Nat → Int64} (hB : IB K aC v aM bM) (hJ : lw_J s A D k qC qM out (cH aC bC v) (mH aM bM) g H locs) {i : Int32} (hl : lv_has ls 7 [(4, .int i), (3, .ref out), (2, .ref (qM 0)), (1, .ref (qC 0)), (0, .ref b)]) (hin : ∀ jv : Int32, 0 ≤ jv.toInt → jv.toInt ≤ 6 → vp_in (i + jv) L) (hcs : cells ≤ 601024 ∧ slots ≤ 7293033) (kk : lw_K p l e s m b below meth c cells slots Q A D k qC qM out (K + 1) i) : W p l e room_1 s m #[Value.ref b] below meth c H locs cells slots Q (F0 m 985 ls []) := by
  obtain ⟨hx, hb, hr, hml, hown, -⟩ := id I.1
  refine lv_aload_n hx hb dL_law_985 rfl (lv_at hl 3 rfl) ?_
  refine lw_arg I hJ.2.2 (lv_at hl 4 rfl) (lv_at hl 0 rfl) (hin 1 (by decide) (by decide)) dL_law_986 dL_law_987 dL_law_989 dL_law_990 dL_law_991 (by decide) ?_
  refine lw_arg I hJ.2.2 (lv_at hl 4 rfl) (lv_at hl 0 rfl) (hin 2 (by decide) (by decide)) dL_law_992 dL_law_993 dL_law_995 dL_law_996 dL_law_997 (by decide) ?_
  refine lw_arg I hJ.2.2 (lv_at hl 4 rfl) (lv_at hl 0 rfl) (hin 3 (by decide) (by decide)) dL_law_998 dL_law_999 dL_law_1001 dL_law_1002 dL_law_1003 (by decide) ?_
  refine lw_doC I hJ mtC_145 (pc_share hK aC bC v (xs (i + 1).toNatClampNeg) (xs (i + 2).toNatClampNeg) (xs (i + 3).toNatClampNeg) hB.1) ⟨rfl, (by decide : (parseMethodDescriptor yX12_share.desc).map (fun d => d.parameters.length) = some 3)⟩ (lw_ws lm_187 lm_188 lm_189 lm_4 lm_190) (by decide) (by decide) dL_law_1004 hl.1 rfl (by decide) hcs ?_
  intro aC1 bC1 v1 x1 H1 locs1 hI1 hp1 hJ1
  refine lv_pop hx hb dL_law_1007 rfl ?_
  refine lv_aload_n hx hb dL_law_1008 rfl (lv_at hl 2 rfl) ?_
  refine lw_arg I hJ1.2.2 (lv_at hl 4 rfl) (lv_at hl 0 rfl) (hin 1 (by decide) (by decide)) dL_law_1009 dL_law_1010 dL_law_1012 dL_law_1013 dL_law_1014 (by decide) ?_
  refine lw_arg I hJ1.2.2 (lv_at hl 4 rfl) (lv_at hl 0 rfl) (hin 2 (by decide) (by decide)) dL_law_1015 dL_law_1016 dL_law_1018 dL_law_1019 dL_law_1020 (by decide) ?_
  refine lw_arg I hJ1.2.2 (lv_at hl 4 rfl) (lv_at hl 0 rfl) (hin 3 (by decide) (by decide)) dL_law_1021 dL_law_1022 dL_law_1024 dL_law_1025 dL_law_1026 (by decide) ?_
  refine lw_doM I hJ1 mtM_97 (pm_share hK aM bM (xs (i + 1).toNatClampNeg) (xs (i + 2).toNatClampNeg) (xs (i + 3).toNatClampNeg) hB.2.1) ⟨rfl, (by decide : (parseMethodDescriptor yX13_share.desc).map (fun d => d.parameters.length) = some 3)⟩ (lw_ws lm_191 lm_192 lm_193 lm_9 lm_194) (by decide) (by decide) dL_law_1027 hl.1 rfl (by decide) hcs ?_
  intro aM1 bM1 x2 H2 locs2 hI2 hz5 hp2 hJ2
  refine lv_pop hx hb dL_law_1030 rfl ?_
  refine lv_goto (tgt := 1431) hx hb dL_law_1031 (by decide) ?_
  exact kk aC1 bC1 v1 aM1 bM1 g H2 locs2 ls ⟨hI1, hI2, (hB.2.2.keepC hp1).keepM hp2 hz5⟩ hJ2 hl
set_option maxHeartbeats 1000000 in
theorem lc_walls {p : Program} {l : Launch} {e : Env} {s : State} {m : MethodId} {below : List Frame} {meth : Method} {c : Code} {H : Heap} {locs : List Loc} {cells slots : Nat} {Q : State → Prop} {ls : Array Slot} {b L : Nat} {xs : Nat → Int32} {A : Nat → Prop} {D : va_G} {k : Nat → ClassId} {qC qM : Nat → Nat} {out : Nat} {g : Nat → Int64} (I : lw_In p s m meth c b L xs A D k qC qM) {K : Nat} (hK : K ≤ 600) {aC : Nat → Nat → Int32} {bC : Nat → Nat → Int64} {v : Nat → Option Nat} {aM : Nat → Nat → Int32} {bM : Nat → Nat → Int64} (hB : IB K aC v aM bM) (hJ : lw_J s A D k qC qM out (cH aC bC v) (mH aM bM) g H locs) {i : Int32} (hl : lv_has ls 7 [(4, .int i), (3, .ref out), (2, .ref (qM 0)), (1, .ref (qC 0)), (0, .ref b)]) (hin : ∀ jv : Int32, 0 ≤ jv.toInt → jv.toInt ≤ 6 → vp_in (i + jv) L) (hcs : cells ≤ 601024 ∧ slots ≤ 7293033) (kk : lw_K p l e s m b below meth c cells slots Q A D k qC qM out (K + 1) i) : W p l e room_1 s m #[Value.ref b] below meth c H locs cells slots Q (F0 m 1071 ls []) := by
  obtain ⟨hx, hb, hr, hml, hown, -⟩ := id I.1
  refine lv_aload_n hx hb dL_law_1071 rfl (lv_at hl 3 rfl) ?_
  refine lw_arg I hJ.2.2 (lv_at hl 4 rfl) (lv_at hl 0 rfl) (hin 1 (by decide) (by decide)) dL_law_1072 dL_law_1073 dL_law_1075 dL_law_1076 dL_law_1077 (by decide) ?_
  refine lw_arg I hJ.2.2 (lv_at hl 4 rfl) (lv_at hl 0 rfl) (hin 2 (by decide) (by decide)) dL_law_1078 dL_law_1079 dL_law_1081 dL_law_1082 dL_law_1083 (by decide) ?_
  refine lw_arg I hJ.2.2 (lv_at hl 4 rfl) (lv_at hl 0 rfl) (hin 3 (by decide) (by decide)) dL_law_1084 dL_law_1085 dL_law_1087 dL_law_1088 dL_law_1089 (by decide) ?_
  refine lw_doC I hJ mtC_148 (pc_walls hK aC bC v (xs (i + 1).toNatClampNeg) (xs (i + 2).toNatClampNeg) (xs (i + 3).toNatClampNeg) hB.1) ⟨rfl, (by decide : (parseMethodDescriptor yX12_walls.desc).map (fun d => d.parameters.length) = some 3)⟩ (lw_ws lm_203 lm_204 lm_205 lm_4 lm_206) (by decide) (by decide) dL_law_1090 hl.1 rfl (by decide) hcs ?_
  intro aC1 bC1 v1 x1 H1 locs1 hI1 hp1 hJ1
  refine lv_pop hx hb dL_law_1093 rfl ?_
  refine lv_aload_n hx hb dL_law_1094 rfl (lv_at hl 2 rfl) ?_
  refine lw_arg I hJ1.2.2 (lv_at hl 4 rfl) (lv_at hl 0 rfl) (hin 1 (by decide) (by decide)) dL_law_1095 dL_law_1096 dL_law_1098 dL_law_1099 dL_law_1100 (by decide) ?_
  refine lw_arg I hJ1.2.2 (lv_at hl 4 rfl) (lv_at hl 0 rfl) (hin 2 (by decide) (by decide)) dL_law_1101 dL_law_1102 dL_law_1104 dL_law_1105 dL_law_1106 (by decide) ?_
  refine lw_arg I hJ1.2.2 (lv_at hl 4 rfl) (lv_at hl 0 rfl) (hin 3 (by decide) (by decide)) dL_law_1107 dL_law_1108 dL_law_1110 dL_law_1111 dL_law_1112 (by decide) ?_
  refine lw_doM I hJ1 mtM_101 (pm_walls hK aM bM (xs (i + 1).toNatClampNeg) (xs (i + 2).toNatClampNeg) (xs (i + 3).toNatClampNeg) hB.2.1) ⟨rfl, (by decide : (parseMethodDescriptor yX13_walls.desc).map (fun d => d.parameters.length) = some 3)⟩ (lw_ws lm_207 lm_208 lm_209 lm_9 lm_210) (by decide) (by decide) dL_law_1113 hl.1 rfl (by decide) hcs ?_
  intro aM1 bM1 x2 H2 locs2 hI2 hz5 hp2 hJ2
  refine lv_pop hx hb dL_law_1116 rfl ?_
  refine lv_goto (tgt := 1431) hx hb dL_law_1117 (by decide) ?_
  exact kk aC1 bC1 v1 aM1 bM1 g H2 locs2 ls ⟨hI1, hI2, (hB.2.2.keepC hp1).keepM hp2 hz5⟩ hJ2 hl
set_option maxHeartbeats 1000000 in
theorem lc_found {p : Program} {l : Launch} {e : Env} {s : State} {m : MethodId} {below : List Frame} {meth : Method} {c : Code} {H : Heap} {locs : List Loc} {cells slots : Nat} {Q : State → Prop} {ls : Array Slot} {b L : Nat} {xs : Nat → Int32} {A : Nat → Prop} {D : va_G} {k : Nat → ClassId} {qC qM : Nat → Nat} {out : Nat} {g : Nat → Int64} (I : lw_In p s m meth c b L xs A D k qC qM) {K : Nat} (hK : K ≤ 600) {aC : Nat → Nat → Int32} {bC : Nat → Nat → Int64} {v : Nat → Option Nat} {aM : Nat → Nat → Int32} {bM : Nat → Nat → Int64} (hB : IB K aC v aM bM) (hJ : lw_J s A D k qC qM out (cH aC bC v) (mH aM bM) g H locs) {i : Int32} (hl : lv_has ls 7 [(4, .int i), (3, .ref out), (2, .ref (qM 0)), (1, .ref (qC 0)), (0, .ref b)]) (hin : ∀ jv : Int32, 0 ≤ jv.toInt → jv.toInt ≤ 6 → vp_in (i + jv) L) (hcs : cells ≤ 601024 ∧ slots ≤ 7293033) (kk : lw_K p l e s m b below meth c cells slots Q A D k qC qM out (K + 1) i) : W p l e room_1 s m #[Value.ref b] below meth c H locs cells slots Q (F0 m 1169 ls []) := by
  obtain ⟨hx, hb, hr, hml, hown, -⟩ := id I.1
  refine lv_aload_n hx hb dL_law_1169 rfl (lv_at hl 3 rfl) ?_
  refine lw_arg I hJ.2.2 (lv_at hl 4 rfl) (lv_at hl 0 rfl) (hin 1 (by decide) (by decide)) dL_law_1170 dL_law_1171 dL_law_1173 dL_law_1174 dL_law_1175 (by decide) ?_
  refine lw_doC I hJ mtC_150 (pc_found hK aC bC v (xs (i + 1).toNatClampNeg) hB.1) ⟨rfl, (by decide : (parseMethodDescriptor yX12_found.desc).map (fun d => d.parameters.length) = some 1)⟩ (lw_ws lm_219 lm_220 lm_221 lm_4 lm_222) (by decide) (by decide) dL_law_1176 hl.1 rfl (by decide) hcs ?_
  intro aC1 bC1 v1 x1 H1 locs1 hI1 hp1 hJ1
  refine lv_pop hx hb dL_law_1179 rfl ?_
  refine lv_aload_n hx hb dL_law_1180 rfl (lv_at hl 2 rfl) ?_
  refine lw_arg I hJ1.2.2 (lv_at hl 4 rfl) (lv_at hl 0 rfl) (hin 1 (by decide) (by decide)) dL_law_1181 dL_law_1182 dL_law_1184 dL_law_1185 dL_law_1186 (by decide) ?_
  refine lw_doM I hJ1 mtM_105 (pm_found hK aM bM (xs (i + 1).toNatClampNeg) hB.2.1) ⟨rfl, (by decide : (parseMethodDescriptor yX13_found.desc).map (fun d => d.parameters.length) = some 1)⟩ (lw_ws lm_223 lm_224 lm_225 lm_9 lm_226) (by decide) (by decide) dL_law_1187 hl.1 rfl (by decide) hcs ?_
  intro aM1 bM1 x2 H2 locs2 hI2 hz5 hp2 hJ2
  refine lv_pop hx hb dL_law_1190 rfl ?_
  refine lv_goto (tgt := 1431) hx hb dL_law_1191 (by decide) ?_
  exact kk aC1 bC1 v1 aM1 bM1 g H2 locs2 ls ⟨hI1, hI2, (hB.2.2.keepC hp1).keepM hp2 hz5⟩ hJ2 hl
set_option maxHeartbeats 1000000 in
theorem lc_dams {p : Program} {l : Launch} {e : Env} {s : State} {m : MethodId} {below : List Frame} {meth : Method} {c : Code} {H : Heap} {locs : List Loc} {cells slots : Nat} {Q : State → Prop} {ls : Array Slot} {b L : Nat} {xs : Nat → Int32} {A : Nat → Prop} {D : va_G} {k : Nat → ClassId} {qC qM : Nat → Nat} {out : Nat} {g : Nat → Int64} (I : lw_In p s m meth c b L xs A D k qC qM) {K : Nat} (hK : K ≤ 600) {aC : Nat → Nat → Int32} {bC : Nat → Nat → Int64} {v : Nat → Option Nat} {aM : Nat → Nat → Int32} {bM : Nat → Nat → Int64} (hB : IB K aC v aM bM) (hJ : lw_J s A D k qC qM out (cH aC bC v) (mH aM bM) g H locs) {i : Int32} (hl : lv_has ls 7 [(4, .int i), (3, .ref out), (2, .ref (qM 0)), (1, .ref (qC 0)), (0, .ref b)]) (hin : ∀ jv : Int32, 0 ≤ jv.toInt → jv.toInt ≤ 6 → vp_in (i + jv) L) (hcs : cells ≤ 601024 ∧ slots ≤ 7293033) (kk : lw_K p l e s m b below meth c cells slots Q A D k qC qM out (K + 1) i) : W p l e room_1 s m #[Value.ref b] below meth c H locs cells slots Q (F0 m 1255 ls []) := by
  obtain ⟨hx, hb, hr, hml, hown, -⟩ := id I.1
  refine lv_aload_n hx hb dL_law_1255 rfl (lv_at hl 3 rfl) ?_
  refine lw_arg I hJ.2.2 (lv_at hl 4 rfl) (lv_at hl 0 rfl) (hin 1 (by decide) (by decide)) dL_law_1256 dL_law_1257 dL_law_1259 dL_law_1260 dL_law_1261 (by decide) ?_
  refine lw_arg I hJ.2.2 (lv_at hl 4 rfl) (lv_at hl 0 rfl) (hin 2 (by decide) (by decide)) dL_law_1262 dL_law_1263 dL_law_1265 dL_law_1266 dL_law_1267 (by decide) ?_
  refine lw_arg I hJ.2.2 (lv_at hl 4 rfl) (lv_at hl 0 rfl) (hin 3 (by decide) (by decide)) dL_law_1268 dL_law_1269 dL_law_1271 dL_law_1272 dL_law_1273 (by decide) ?_
  refine lw_doC I hJ mtC_153 (pc_dams hK aC bC v (xs (i + 1).toNatClampNeg) (xs (i + 2).toNatClampNeg) (xs (i + 3).toNatClampNeg) hB.1) ⟨rfl, (by decide : (parseMethodDescriptor yX12_dams.desc).map (fun d => d.parameters.length) = some 3)⟩ (lw_ws lm_235 lm_236 lm_237 lm_4 lm_238) (by decide) (by decide) dL_law_1274 hl.1 rfl (by decide) hcs ?_
  intro aC1 bC1 v1 x1 H1 locs1 hI1 hp1 hJ1
  refine lv_pop hx hb dL_law_1277 rfl ?_
  refine lv_aload_n hx hb dL_law_1278 rfl (lv_at hl 2 rfl) ?_
  refine lw_arg I hJ1.2.2 (lv_at hl 4 rfl) (lv_at hl 0 rfl) (hin 1 (by decide) (by decide)) dL_law_1279 dL_law_1280 dL_law_1282 dL_law_1283 dL_law_1284 (by decide) ?_
  refine lw_arg I hJ1.2.2 (lv_at hl 4 rfl) (lv_at hl 0 rfl) (hin 2 (by decide) (by decide)) dL_law_1285 dL_law_1286 dL_law_1288 dL_law_1289 dL_law_1290 (by decide) ?_
  refine lw_arg I hJ1.2.2 (lv_at hl 4 rfl) (lv_at hl 0 rfl) (hin 3 (by decide) (by decide)) dL_law_1291 dL_law_1292 dL_law_1294 dL_law_1295 dL_law_1296 (by decide) ?_
  refine lw_doM I hJ1 mtM_109 (pm_dams hK aM bM (xs (i + 1).toNatClampNeg) (xs (i + 2).toNatClampNeg) (xs (i + 3).toNatClampNeg) hB.2.1) ⟨rfl, (by decide : (parseMethodDescriptor yX13_dams.desc).map (fun d => d.parameters.length) = some 3)⟩ (lw_ws lm_239 lm_240 lm_241 lm_9 lm_242) (by decide) (by decide) dL_law_1297 hl.1 rfl (by decide) hcs ?_
  intro aM1 bM1 x2 H2 locs2 hI2 hz5 hp2 hJ2
  refine lv_pop hx hb dL_law_1300 rfl ?_
  refine lv_goto (tgt := 1431) hx hb dL_law_1301 (by decide) ?_
  exact kk aC1 bC1 v1 aM1 bM1 g H2 locs2 ls ⟨hI1, hI2, (hB.2.2.keepC hp1).keepM hp2 hz5⟩ hJ2 hl
set_option maxHeartbeats 1000000 in
theorem lc_mark {p : Program} {l : Launch} {e : Env} {s : State} {m : MethodId} {below : List Frame} {meth : Method} {c : Code} {H : Heap} {locs : List Loc} {cells slots : Nat} {Q : State → Prop} {ls : Array Slot} {b L : Nat} {xs : Nat → Int32} {A : Nat → Prop} {D : va_G} {k : Nat → ClassId} {qC qM : Nat → Nat} {out : Nat} {g : Nat → Int64} (I : lw_In p s m meth c b L xs A D k qC qM) {K : Nat} (hK : K ≤ 600) {aC : Nat → Nat → Int32} {bC : Nat → Nat → Int64} {v : Nat → Option Nat} {aM : Nat → Nat → Int32} {bM : Nat → Nat → Int64} (hB : IB K aC v aM bM) (hJ : lw_J s A D k qC qM out (cH aC bC v) (mH aM bM) g H locs) {i : Int32} (hl : lv_has ls 7 [(4, .int i), (3, .ref out), (2, .ref (qM 0)), (1, .ref (qC 0)), (0, .ref b)]) (hin : ∀ jv : Int32, 0 ≤ jv.toInt → jv.toInt ≤ 6 → vp_in (i + jv) L) (hcs : cells ≤ 601024 ∧ slots ≤ 7293033) (kk : lw_K p l e s m b below meth c cells slots Q A D k qC qM out (K + 1) i) : W p l e room_1 s m #[Value.ref b] below meth c H locs cells slots Q (F0 m 1353 ls []) := by
  obtain ⟨hx, hb, hr, hml, hown, -⟩ := id I.1
  refine lv_aload_n hx hb dL_law_1353 rfl (lv_at hl 3 rfl) ?_
  refine lw_arg I hJ.2.2 (lv_at hl 4 rfl) (lv_at hl 0 rfl) (hin 1 (by decide) (by decide)) dL_law_1354 dL_law_1355 dL_law_1357 dL_law_1358 dL_law_1359 (by decide) ?_
  refine lw_arg I hJ.2.2 (lv_at hl 4 rfl) (lv_at hl 0 rfl) (hin 2 (by decide) (by decide)) dL_law_1360 dL_law_1361 dL_law_1363 dL_law_1364 dL_law_1365 (by decide) ?_
  refine lw_bool I (t0 := 1373) (t1 := 1374) dL_law_1366 (by decide) dL_law_1369 dL_law_1370 (by decide) dL_law_1373 rfl ?_
  intro z1 hz1 ez1
  refine lw_doC I hJ mtC_125 (pc_mark hK aC bC v (xs (i + 1).toNatClampNeg) (z1) hB.1) ⟨rfl, (by decide : (parseMethodDescriptor yX12_mark.desc).map (fun d => d.parameters.length) = some 2)⟩ (lw_ws lm_251 lm_252 lm_253 lm_4 lm_254) (by decide) (by decide) dL_law_1374 hl.1 rfl (by decide) hcs ?_
  intro aC1 bC1 v1 x1 H1 locs1 hI1 hp1 hJ1
  refine lv_pop hx hb dL_law_1377 rfl ?_
  refine lv_aload_n hx hb dL_law_1378 rfl (lv_at hl 2 rfl) ?_
  refine lw_arg I hJ1.2.2 (lv_at hl 4 rfl) (lv_at hl 0 rfl) (hin 1 (by decide) (by decide)) dL_law_1379 dL_law_1380 dL_law_1382 dL_law_1383 dL_law_1384 (by decide) ?_
  refine lw_arg I hJ1.2.2 (lv_at hl 4 rfl) (lv_at hl 0 rfl) (hin 2 (by decide) (by decide)) dL_law_1385 dL_law_1386 dL_law_1388 dL_law_1389 dL_law_1390 (by decide) ?_
  refine lw_bool I (t0 := 1398) (t1 := 1399) dL_law_1391 (by decide) dL_law_1394 dL_law_1395 (by decide) dL_law_1398 rfl ?_
  intro z2 hz2 ez2
  refine lw_doM I hJ1 mtM_112 (pm_mark hK aM bM (xs (i + 1).toNatClampNeg) (z2) hB.2.1 hz2) ⟨rfl, (by decide : (parseMethodDescriptor yX13_mark.desc).map (fun d => d.parameters.length) = some 2)⟩ (lw_ws lm_255 lm_256 lm_257 lm_9 lm_258) (by decide) (by decide) dL_law_1399 hl.1 rfl (by decide) hcs ?_
  intro aM1 bM1 x2 H2 locs2 hI2 hz5 hp2 hJ2
  refine lv_pop hx hb dL_law_1402 rfl ?_
  refine lv_goto (tgt := 1431) hx hb dL_law_1403 (by decide) ?_
  exact kk aC1 bC1 v1 aM1 bM1 g H2 locs2 ls ⟨hI1, hI2, hB.2.2.put hp1.1 hp2.1 (hB.2.2.2.2.2.1.mrk (ez1.trans ez2.symm) hp1.2.1.1 hp2.2.1.1) (hB.2.2.2.2.2.2.kp hp1.2.1.2 hp2.2.1.2) hz5⟩ hJ2 hl
