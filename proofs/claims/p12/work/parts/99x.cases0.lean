set_option maxHeartbeats 1000000 in
theorem lc_feed {p : Program} {l : Launch} {e : Env} {s : State} {m : MethodId} {below : List Frame} {meth : Method} {c : Code} {H : Heap} {locs : List Loc} {cells slots : Nat} {Q : State → Prop} {ls : Array Slot} {b L : Nat} {xs : Nat → Int32} {A : Nat → Prop} {D : va_G} {k : Nat → ClassId} {qC qM : Nat → Nat} {out : Nat} {g : Nat → Int64} (I : lw_In p s m meth c b L xs A D k qC qM) {K : Nat} (hK : K ≤ 600) {aC : Nat → Nat → Int32} {bC : Nat → Nat → Int64} {v : Nat → Option Nat} {aM : Nat → Nat → Int32} {bM : Nat → Nat → Int64} (hB : IB K aC v aM bM) (hJ : lw_J s A D k qC qM out (cH aC bC v) (mH aM bM) g H locs) {i : Int32} (hl : lv_has ls 7 [(4, .int i), (3, .ref out), (2, .ref (qM 0)), (1, .ref (qC 0)), (0, .ref b)]) (hin : ∀ jv : Int32, 0 ≤ jv.toInt → jv.toInt ≤ 6 → vp_in (i + jv) L) (hcs : cells ≤ 601024 ∧ slots ≤ 7293033) (kk : lw_K p l e s m b below meth c cells slots Q A D k qC qM out (K + 1) i) : W p l e room_1 s m #[Value.ref b] below meth c H locs cells slots Q (F0 m 196 ls []) := by
  obtain ⟨hx, hb, hr, hml, hown, -⟩ := id I.1
  refine lv_aload_n hx hb dL_law_196 rfl (lv_at hl 3 rfl) ?_
  refine lw_arg I hJ.2.2 (lv_at hl 4 rfl) (lv_at hl 0 rfl) (hin 1 (by decide) (by decide)) dL_law_197 dL_law_198 dL_law_200 dL_law_201 dL_law_202 (by decide) ?_
  refine lv_i2l (v := (xs (i + 1).toNatClampNeg).toInt64) hx hb dL_law_203 rfl ?_
  refine lv_bipush (v := 32) hx hb dL_law_204 (by decide) ?_
  refine lv_lshl (v := ((xs (i + 1).toNatClampNeg).toInt64 <<< ((32 : Int32).toInt64 &&& 63))) hx hb dL_law_206 rfl ?_
  refine lw_arg I hJ.2.2 (lv_at hl 4 rfl) (lv_at hl 0 rfl) (hin 2 (by decide) (by decide)) dL_law_207 dL_law_208 dL_law_210 dL_law_211 dL_law_212 (by decide) ?_
  refine lv_i2l (v := (xs (i + 2).toNatClampNeg).toInt64) hx hb dL_law_213 rfl ?_
  refine lv_ldc2 (v := 4294967295) hx hb hown (I.2.1 _ (List.mem_cons_of_mem _ (List.mem_cons_of_mem _ lm_0))) dL_law_214 ?_
  refine lv_land hx hb dL_law_217 ?_
  refine lv_lor hx hb dL_law_218 ?_
  refine lw_arg I hJ.2.2 (lv_at hl 4 rfl) (lv_at hl 0 rfl) (hin 3 (by decide) (by decide)) dL_law_219 dL_law_220 dL_law_222 dL_law_223 dL_law_224 (by decide) ?_
  refine lv_i2l (v := (xs (i + 3).toNatClampNeg).toInt64) hx hb dL_law_225 rfl ?_
  refine lv_bipush (v := 32) hx hb dL_law_226 (by decide) ?_
  refine lv_lshl (v := ((xs (i + 3).toNatClampNeg).toInt64 <<< ((32 : Int32).toInt64 &&& 63))) hx hb dL_law_228 rfl ?_
  refine lw_arg I hJ.2.2 (lv_at hl 4 rfl) (lv_at hl 0 rfl) (hin 4 (by decide) (by decide)) dL_law_229 dL_law_230 dL_law_232 dL_law_233 dL_law_234 (by decide) ?_
  refine lv_i2l (v := (xs (i + 4).toNatClampNeg).toInt64) hx hb dL_law_235 rfl ?_
  refine lv_ldc2 (v := 4294967295) hx hb hown (I.2.1 _ (List.mem_cons_of_mem _ (List.mem_cons_of_mem _ lm_0))) dL_law_236 ?_
  refine lv_land hx hb dL_law_239 ?_
  refine lv_lor hx hb dL_law_240 ?_
  refine lw_arg I hJ.2.2 (lv_at hl 4 rfl) (lv_at hl 0 rfl) (hin 5 (by decide) (by decide)) dL_law_241 dL_law_242 dL_law_244 dL_law_245 dL_law_246 (by decide) ?_
  refine lv_i2l (v := (xs (i + 5).toNatClampNeg).toInt64) hx hb dL_law_247 rfl ?_
  refine lv_bipush (v := 32) hx hb dL_law_248 (by decide) ?_
  refine lv_lshl (v := ((xs (i + 5).toNatClampNeg).toInt64 <<< ((32 : Int32).toInt64 &&& 63))) hx hb dL_law_250 rfl ?_
  refine lw_arg6 I hJ.2.2 (lv_at hl 4 rfl) (lv_at hl 0 rfl) (hin 6 (by decide) (by decide)) dL_law_251 dL_law_252 dL_law_254 dL_law_256 dL_law_257 (by decide) ?_
  refine lv_i2l (v := (xs (i + 6).toNatClampNeg).toInt64) hx hb dL_law_258 rfl ?_
  refine lv_ldc2 (v := 4294967295) hx hb hown (I.2.1 _ (List.mem_cons_of_mem _ (List.mem_cons_of_mem _ lm_0))) dL_law_259 ?_
  refine lv_land hx hb dL_law_262 ?_
  refine lv_lor hx hb dL_law_263 ?_
  refine lw_doC I hJ mtC_97 (pc_feed hK aC bC v (((xs (i + 1).toNatClampNeg).toInt64 <<< ((32 : Int32).toInt64 &&& 63)) ||| ((xs (i + 2).toNatClampNeg).toInt64 &&& 4294967295)) (((xs (i + 3).toNatClampNeg).toInt64 <<< ((32 : Int32).toInt64 &&& 63)) ||| ((xs (i + 4).toNatClampNeg).toInt64 &&& 4294967295)) (((xs (i + 5).toNatClampNeg).toInt64 <<< ((32 : Int32).toInt64 &&& 63)) ||| ((xs (i + 6).toNatClampNeg).toInt64 &&& 4294967295)) hB.1) ⟨rfl, (by decide : (parseMethodDescriptor yX12_feed.desc).map (fun d => d.parameters.length) = some 3)⟩ (lw_ws lm_1 lm_2 lm_3 lm_4 lm_5) (by decide) (by decide) dL_law_264 hl.1 rfl (by decide) hcs ?_
  intro aC1 bC1 v1 x1 H1 locs1 hI1 hp1 hJ1
  refine lv_pop hx hb dL_law_267 rfl ?_
  refine lv_aload_n hx hb dL_law_268 rfl (lv_at hl 2 rfl) ?_
  refine lw_arg I hJ1.2.2 (lv_at hl 4 rfl) (lv_at hl 0 rfl) (hin 1 (by decide) (by decide)) dL_law_269 dL_law_270 dL_law_272 dL_law_273 dL_law_274 (by decide) ?_
  refine lv_i2l (v := (xs (i + 1).toNatClampNeg).toInt64) hx hb dL_law_275 rfl ?_
  refine lv_bipush (v := 32) hx hb dL_law_276 (by decide) ?_
  refine lv_lshl (v := ((xs (i + 1).toNatClampNeg).toInt64 <<< ((32 : Int32).toInt64 &&& 63))) hx hb dL_law_278 rfl ?_
  refine lw_arg I hJ1.2.2 (lv_at hl 4 rfl) (lv_at hl 0 rfl) (hin 2 (by decide) (by decide)) dL_law_279 dL_law_280 dL_law_282 dL_law_283 dL_law_284 (by decide) ?_
  refine lv_i2l (v := (xs (i + 2).toNatClampNeg).toInt64) hx hb dL_law_285 rfl ?_
  refine lv_ldc2 (v := 4294967295) hx hb hown (I.2.1 _ (List.mem_cons_of_mem _ (List.mem_cons_of_mem _ lm_0))) dL_law_286 ?_
  refine lv_land hx hb dL_law_289 ?_
  refine lv_lor hx hb dL_law_290 ?_
  refine lw_arg I hJ1.2.2 (lv_at hl 4 rfl) (lv_at hl 0 rfl) (hin 3 (by decide) (by decide)) dL_law_291 dL_law_292 dL_law_294 dL_law_295 dL_law_296 (by decide) ?_
  refine lv_i2l (v := (xs (i + 3).toNatClampNeg).toInt64) hx hb dL_law_297 rfl ?_
  refine lv_bipush (v := 32) hx hb dL_law_298 (by decide) ?_
  refine lv_lshl (v := ((xs (i + 3).toNatClampNeg).toInt64 <<< ((32 : Int32).toInt64 &&& 63))) hx hb dL_law_300 rfl ?_
  refine lw_arg I hJ1.2.2 (lv_at hl 4 rfl) (lv_at hl 0 rfl) (hin 4 (by decide) (by decide)) dL_law_301 dL_law_302 dL_law_304 dL_law_305 dL_law_306 (by decide) ?_
  refine lv_i2l (v := (xs (i + 4).toNatClampNeg).toInt64) hx hb dL_law_307 rfl ?_
  refine lv_ldc2 (v := 4294967295) hx hb hown (I.2.1 _ (List.mem_cons_of_mem _ (List.mem_cons_of_mem _ lm_0))) dL_law_308 ?_
  refine lv_land hx hb dL_law_311 ?_
  refine lv_lor hx hb dL_law_312 ?_
  refine lw_arg I hJ1.2.2 (lv_at hl 4 rfl) (lv_at hl 0 rfl) (hin 5 (by decide) (by decide)) dL_law_313 dL_law_314 dL_law_316 dL_law_317 dL_law_318 (by decide) ?_
  refine lv_i2l (v := (xs (i + 5).toNatClampNeg).toInt64) hx hb dL_law_319 rfl ?_
  refine lv_bipush (v := 32) hx hb dL_law_320 (by decide) ?_
  refine lv_lshl (v := ((xs (i + 5).toNatClampNeg).toInt64 <<< ((32 : Int32).toInt64 &&& 63))) hx hb dL_law_322 rfl ?_
  refine lw_arg6 I hJ1.2.2 (lv_at hl 4 rfl) (lv_at hl 0 rfl) (hin 6 (by decide) (by decide)) dL_law_323 dL_law_324 dL_law_326 dL_law_328 dL_law_329 (by decide) ?_
  refine lv_i2l (v := (xs (i + 6).toNatClampNeg).toInt64) hx hb dL_law_330 rfl ?_
  refine lv_ldc2 (v := 4294967295) hx hb hown (I.2.1 _ (List.mem_cons_of_mem _ (List.mem_cons_of_mem _ lm_0))) dL_law_331 ?_
  refine lv_land hx hb dL_law_334 ?_
  refine lv_lor hx hb dL_law_335 ?_
  refine lw_doM I hJ1 mtM_0 (pm_feed hK aM bM (((xs (i + 1).toNatClampNeg).toInt64 <<< ((32 : Int32).toInt64 &&& 63)) ||| ((xs (i + 2).toNatClampNeg).toInt64 &&& 4294967295)) (((xs (i + 3).toNatClampNeg).toInt64 <<< ((32 : Int32).toInt64 &&& 63)) ||| ((xs (i + 4).toNatClampNeg).toInt64 &&& 4294967295)) (((xs (i + 5).toNatClampNeg).toInt64 <<< ((32 : Int32).toInt64 &&& 63)) ||| ((xs (i + 6).toNatClampNeg).toInt64 &&& 4294967295)) hB.2.1) ⟨rfl, (by decide : (parseMethodDescriptor yX13_feed.desc).map (fun d => d.parameters.length) = some 3)⟩ (lw_ws lm_6 lm_7 lm_8 lm_9 lm_10) (by decide) (by decide) dL_law_336 hl.1 rfl (by decide) hcs ?_
  intro aM1 bM1 x2 H2 locs2 hI2 hz5 hp2 hJ2
  refine lv_pop hx hb dL_law_339 rfl ?_
  refine lv_goto (tgt := 1431) hx hb dL_law_340 (by decide) ?_
  exact kk aC1 bC1 v1 aM1 bM1 g H2 locs2 ls ⟨hI1, hI2, hB.2.2.fed hp1.1 hp2.1 (hB.2.2.2.2.2.1.kp hp1.2.1.1 hp2.2.1.1) (hB.2.2.2.2.2.2.kp hp1.2.1.2 hp2.2.1.2) hz5⟩ hJ2 hl
set_option maxHeartbeats 1000000 in
theorem lc_vows {p : Program} {l : Launch} {e : Env} {s : State} {m : MethodId} {below : List Frame} {meth : Method} {c : Code} {H : Heap} {locs : List Loc} {cells slots : Nat} {Q : State → Prop} {ls : Array Slot} {b L : Nat} {xs : Nat → Int32} {A : Nat → Prop} {D : va_G} {k : Nat → ClassId} {qC qM : Nat → Nat} {out : Nat} {g : Nat → Int64} (I : lw_In p s m meth c b L xs A D k qC qM) {K : Nat} (hK : K ≤ 600) {aC : Nat → Nat → Int32} {bC : Nat → Nat → Int64} {v : Nat → Option Nat} {aM : Nat → Nat → Int32} {bM : Nat → Nat → Int64} (hB : IB K aC v aM bM) (hJ : lw_J s A D k qC qM out (cH aC bC v) (mH aM bM) g H locs) {i : Int32} (hl : lv_has ls 7 [(4, .int i), (3, .ref out), (2, .ref (qM 0)), (1, .ref (qC 0)), (0, .ref b)]) (hin : ∀ jv : Int32, 0 ≤ jv.toInt → jv.toInt ≤ 6 → vp_in (i + jv) L) (hcs : cells ≤ 601024 ∧ slots ≤ 7293033) (kk : lw_K p l e s m b below meth c cells slots Q A D k qC qM out (K + 1) i) : W p l e room_1 s m #[Value.ref b] below meth c H locs cells slots Q (F0 m 356 ls []) := by
  obtain ⟨hx, hb, hr, hml, hown, -⟩ := id I.1
  refine lv_aload_n hx hb dL_law_356 rfl (lv_at hl 3 rfl) ?_
  refine lw_doC I hJ mtC_101 (pc_vows hK aC bC v  hB.1) ⟨rfl, (by decide : (parseMethodDescriptor yX12_vows.desc).map (fun d => d.parameters.length) = some 0)⟩ (lw_ws lm_19 lm_20 lm_21 lm_4 lm_22) (by decide) (by decide) dL_law_357 hl.1 rfl (by decide) hcs ?_
  intro aC1 bC1 v1 x1 H1 locs1 hI1 hp1 hJ1
  refine lv_pop hx hb dL_law_360 rfl ?_
  refine lv_aload_n hx hb dL_law_361 rfl (lv_at hl 2 rfl) ?_
  refine lw_doM I hJ1 mtM_27 (pm_vows hK aM bM  hB.2.1) ⟨rfl, (by decide : (parseMethodDescriptor yX13_vows.desc).map (fun d => d.parameters.length) = some 0)⟩ (lw_ws lm_23 lm_24 lm_25 lm_9 lm_26) (by decide) (by decide) dL_law_362 hl.1 rfl (by decide) hcs ?_
  intro aM1 bM1 x2 H2 locs2 hI2 hz5 hp2 hJ2
  refine lv_pop hx hb dL_law_365 rfl ?_
  refine lv_goto (tgt := 1431) hx hb dL_law_366 (by decide) ?_
  exact kk aC1 bC1 v1 aM1 bM1 g H2 locs2 ls ⟨hI1, hI2, hB.2.2.zero hp1.1 hp2.1 (hB.2.2.2.2.2.1.kp hp1.2.1.1 hp2.2.1.1) (hB.2.2.2.2.2.2.kp hp1.2.1.2 hp2.2.1.2) hz5⟩ hJ2 hl
set_option maxHeartbeats 1000000 in
theorem lc_flow {p : Program} {l : Launch} {e : Env} {s : State} {m : MethodId} {below : List Frame} {meth : Method} {c : Code} {H : Heap} {locs : List Loc} {cells slots : Nat} {Q : State → Prop} {ls : Array Slot} {b L : Nat} {xs : Nat → Int32} {A : Nat → Prop} {D : va_G} {k : Nat → ClassId} {qC qM : Nat → Nat} {out : Nat} {g : Nat → Int64} (I : lw_In p s m meth c b L xs A D k qC qM) {K : Nat} (hK : K ≤ 600) {aC : Nat → Nat → Int32} {bC : Nat → Nat → Int64} {v : Nat → Option Nat} {aM : Nat → Nat → Int32} {bM : Nat → Nat → Int64} (hB : IB K aC v aM bM) (hJ : lw_J s A D k qC qM out (cH aC bC v) (mH aM bM) g H locs) {i : Int32} (hl : lv_has ls 7 [(4, .int i), (3, .ref out), (2, .ref (qM 0)), (1, .ref (qC 0)), (0, .ref b)]) (hin : ∀ jv : Int32, 0 ≤ jv.toInt → jv.toInt ≤ 6 → vp_in (i + jv) L) (hcs : cells ≤ 601024 ∧ slots ≤ 7293033) (kk : lw_K p l e s m b below meth c cells slots Q A D k qC qM out (K + 1) i) : W p l e room_1 s m #[Value.ref b] below meth c H locs cells slots Q (F0 m 422 ls []) := by
  obtain ⟨hx, hb, hr, hml, hown, -⟩ := id I.1
  refine lv_aload_n hx hb dL_law_422 rfl (lv_at hl 3 rfl) ?_
  refine lw_arg I hJ.2.2 (lv_at hl 4 rfl) (lv_at hl 0 rfl) (hin 1 (by decide) (by decide)) dL_law_423 dL_law_424 dL_law_426 dL_law_427 dL_law_428 (by decide) ?_
  refine lw_arg I hJ.2.2 (lv_at hl 4 rfl) (lv_at hl 0 rfl) (hin 2 (by decide) (by decide)) dL_law_429 dL_law_430 dL_law_432 dL_law_433 dL_law_434 (by decide) ?_
  refine lw_arg I hJ.2.2 (lv_at hl 4 rfl) (lv_at hl 0 rfl) (hin 3 (by decide) (by decide)) dL_law_435 dL_law_436 dL_law_438 dL_law_439 dL_law_440 (by decide) ?_
  refine lw_doC I hJ mtC_112 (pc_flow hK aC bC v (xs (i + 1).toNatClampNeg) (xs (i + 2).toNatClampNeg) (xs (i + 3).toNatClampNeg) hB.1) ⟨rfl, (by decide : (parseMethodDescriptor yX12_flow.desc).map (fun d => d.parameters.length) = some 3)⟩ (lw_ws lm_35 lm_36 lm_37 lm_4 lm_38) (by decide) (by decide) dL_law_441 hl.1 rfl (by decide) hcs ?_
  intro aC1 bC1 v1 x1 H1 locs1 hI1 hp1 hJ1
  refine lv_pop hx hb dL_law_444 rfl ?_
  refine lv_aload_n hx hb dL_law_445 rfl (lv_at hl 2 rfl) ?_
  refine lw_arg I hJ1.2.2 (lv_at hl 4 rfl) (lv_at hl 0 rfl) (hin 1 (by decide) (by decide)) dL_law_446 dL_law_447 dL_law_449 dL_law_450 dL_law_451 (by decide) ?_
  refine lw_arg I hJ1.2.2 (lv_at hl 4 rfl) (lv_at hl 0 rfl) (hin 2 (by decide) (by decide)) dL_law_452 dL_law_453 dL_law_455 dL_law_456 dL_law_457 (by decide) ?_
  refine lw_arg I hJ1.2.2 (lv_at hl 4 rfl) (lv_at hl 0 rfl) (hin 3 (by decide) (by decide)) dL_law_458 dL_law_459 dL_law_461 dL_law_462 dL_law_463 (by decide) ?_
  refine lw_doM I hJ1 mtM_60 (pm_flow hK aM bM (xs (i + 1).toNatClampNeg) (xs (i + 2).toNatClampNeg) (xs (i + 3).toNatClampNeg) hB.2.1) ⟨rfl, (by decide : (parseMethodDescriptor yX13_flow.desc).map (fun d => d.parameters.length) = some 3)⟩ (lw_ws lm_39 lm_40 lm_41 lm_9 lm_42) (by decide) (by decide) dL_law_464 hl.1 rfl (by decide) hcs ?_
  intro aM1 bM1 x2 H2 locs2 hI2 hz5 hp2 hJ2
  refine lv_pop hx hb dL_law_467 rfl ?_
  refine lv_goto (tgt := 1431) hx hb dL_law_468 (by decide) ?_
  exact kk aC1 bC1 v1 aM1 bM1 g H2 locs2 ls ⟨hI1, hI2, (hB.2.2.keepC hp1).keepM hp2 hz5⟩ hJ2 hl
set_option maxHeartbeats 1000000 in
theorem lc_near {p : Program} {l : Launch} {e : Env} {s : State} {m : MethodId} {below : List Frame} {meth : Method} {c : Code} {H : Heap} {locs : List Loc} {cells slots : Nat} {Q : State → Prop} {ls : Array Slot} {b L : Nat} {xs : Nat → Int32} {A : Nat → Prop} {D : va_G} {k : Nat → ClassId} {qC qM : Nat → Nat} {out : Nat} {g : Nat → Int64} (I : lw_In p s m meth c b L xs A D k qC qM) {K : Nat} (hK : K ≤ 600) {aC : Nat → Nat → Int32} {bC : Nat → Nat → Int64} {v : Nat → Option Nat} {aM : Nat → Nat → Int32} {bM : Nat → Nat → Int64} (hB : IB K aC v aM bM) (hJ : lw_J s A D k qC qM out (cH aC bC v) (mH aM bM) g H locs) {i : Int32} (hl : lv_has ls 7 [(4, .int i), (3, .ref out), (2, .ref (qM 0)), (1, .ref (qC 0)), (0, .ref b)]) (hin : ∀ jv : Int32, 0 ≤ jv.toInt → jv.toInt ≤ 6 → vp_in (i + jv) L) (hcs : cells ≤ 601024 ∧ slots ≤ 7293033) (kk : lw_K p l e s m b below meth c cells slots Q A D k qC qM out (K + 1) i) : W p l e room_1 s m #[Value.ref b] below meth c H locs cells slots Q (F0 m 496 ls []) := by
  obtain ⟨hx, hb, hr, hml, hown, -⟩ := id I.1
  obtain ⟨L9, V9, c1, c2, c3, c4, c5, c6⟩ := hB.2.2.2.2.2.2
  refine lv_aload_n hx hb dL_law_496 rfl (lv_at hl 3 rfl) ?_
  refine lw_arg I hJ.2.2 (lv_at hl 4 rfl) (lv_at hl 0 rfl) (hin 1 (by decide) (by decide)) dL_law_497 dL_law_498 dL_law_500 dL_law_501 dL_law_502 (by decide) ?_
  refine lw_arg I hJ.2.2 (lv_at hl 4 rfl) (lv_at hl 0 rfl) (hin 2 (by decide) (by decide)) dL_law_503 dL_law_504 dL_law_506 dL_law_507 dL_law_508 (by decide) ?_
  refine lw_doC I hJ mtC_114 (pc_near hK aC bC v (xs (i + 1).toNatClampNeg) (xs (i + 2).toNatClampNeg) hB.1 L9 V9 c1 c2 c3 c5) ⟨rfl, (by decide : (parseMethodDescriptor yX12_near.desc).map (fun d => d.parameters.length) = some 2)⟩ (lw_ws lm_51 lm_52 lm_53 lm_4 lm_54) (by decide) (by decide) dL_law_509 hl.1 rfl (by decide) hcs ?_
  intro aC1 bC1 v1 x1 H1 locs1 hI1 hp1 hJ1
  refine lv_pop hx hb dL_law_512 rfl ?_
  refine lv_aload_n hx hb dL_law_513 rfl (lv_at hl 2 rfl) ?_
  refine lw_arg I hJ1.2.2 (lv_at hl 4 rfl) (lv_at hl 0 rfl) (hin 1 (by decide) (by decide)) dL_law_514 dL_law_515 dL_law_517 dL_law_518 dL_law_519 (by decide) ?_
  refine lw_arg I hJ1.2.2 (lv_at hl 4 rfl) (lv_at hl 0 rfl) (hin 2 (by decide) (by decide)) dL_law_520 dL_law_521 dL_law_523 dL_law_524 dL_law_525 (by decide) ?_
  refine lw_doM I hJ1 mtM_63 (pm_near hK aM bM (xs (i + 1).toNatClampNeg) (xs (i + 2).toNatClampNeg) hB.2.1 V9 c4 c5) ⟨rfl, (by decide : (parseMethodDescriptor yX13_near.desc).map (fun d => d.parameters.length) = some 2)⟩ (lw_ws lm_55 lm_56 lm_57 lm_9 lm_58) (by decide) (by decide) dL_law_526 hl.1 rfl (by decide) hcs ?_
  intro aM1 bM1 x2 H2 locs2 hI2 hz5 hp2 hJ2
  refine lv_pop hx hb dL_law_529 rfl ?_
  refine lv_goto (tgt := 1431) hx hb dL_law_530 (by decide) ?_
  exact kk aC1 bC1 v1 aM1 bM1 g H2 locs2 ls ⟨hI1, hI2, hB.2.2.put hp1.1 hp2.1 (hB.2.2.2.2.2.1.kp hp1.2.1.1 hp2.2.1.1) (hB.2.2.2.2.2.2.kp hp1.2.1.2 hp2.2.1.2) hz5⟩ hJ2 hl
set_option maxHeartbeats 1000000 in
theorem lc_may {p : Program} {l : Launch} {e : Env} {s : State} {m : MethodId} {below : List Frame} {meth : Method} {c : Code} {H : Heap} {locs : List Loc} {cells slots : Nat} {Q : State → Prop} {ls : Array Slot} {b L : Nat} {xs : Nat → Int32} {A : Nat → Prop} {D : va_G} {k : Nat → ClassId} {qC qM : Nat → Nat} {out : Nat} {g : Nat → Int64} (I : lw_In p s m meth c b L xs A D k qC qM) {K : Nat} (hK : K ≤ 600) {aC : Nat → Nat → Int32} {bC : Nat → Nat → Int64} {v : Nat → Option Nat} {aM : Nat → Nat → Int32} {bM : Nat → Nat → Int64} (hB : IB K aC v aM bM) (hJ : lw_J s A D k qC qM out (cH aC bC v) (mH aM bM) g H locs) {i : Int32} (hl : lv_has ls 7 [(4, .int i), (3, .ref out), (2, .ref (qM 0)), (1, .ref (qC 0)), (0, .ref b)]) (hin : ∀ jv : Int32, 0 ≤ jv.toInt → jv.toInt ≤ 6 → vp_in (i + jv) L) (hcs : cells ≤ 601024 ∧ slots ≤ 7293033) (kk : lw_K p l e s m b below meth c cells slots Q A D k qC qM out (K + 1) i) : W p l e room_1 s m #[Value.ref b] below meth c H locs cells slots Q (F0 m 570 ls []) := by
  obtain ⟨hx, hb, hr, hml, hown, -⟩ := id I.1
  refine lv_aload_n hx hb dL_law_570 rfl (lv_at hl 3 rfl) ?_
  refine lw_arg I hJ.2.2 (lv_at hl 4 rfl) (lv_at hl 0 rfl) (hin 1 (by decide) (by decide)) dL_law_571 dL_law_572 dL_law_574 dL_law_575 dL_law_576 (by decide) ?_
  refine lw_doC I hJ mtC_116 (pc_may hK aC bC v (xs (i + 1).toNatClampNeg) hB.1) ⟨rfl, (by decide : (parseMethodDescriptor yX12_may.desc).map (fun d => d.parameters.length) = some 1)⟩ (lw_ws lm_67 lm_68 lm_69 lm_4 lm_70) (by decide) (by decide) dL_law_577 hl.1 rfl (by decide) hcs ?_
  intro aC1 bC1 v1 x1 H1 locs1 hI1 hp1 hJ1
  refine lv_pop hx hb dL_law_580 rfl ?_
  refine lv_aload_n hx hb dL_law_581 rfl (lv_at hl 2 rfl) ?_
  refine lw_arg I hJ1.2.2 (lv_at hl 4 rfl) (lv_at hl 0 rfl) (hin 1 (by decide) (by decide)) dL_law_582 dL_law_583 dL_law_585 dL_law_586 dL_law_587 (by decide) ?_
  refine lw_doM I hJ1 mtM_69 (pm_may hK aM bM (xs (i + 1).toNatClampNeg) hB.2.1) ⟨rfl, (by decide : (parseMethodDescriptor yX13_may.desc).map (fun d => d.parameters.length) = some 1)⟩ (lw_ws lm_71 lm_72 lm_73 lm_9 lm_74) (by decide) (by decide) dL_law_588 hl.1 rfl (by decide) hcs ?_
  intro aM1 bM1 x2 H2 locs2 hI2 hz5 hp2 hJ2
  refine lv_pop hx hb dL_law_591 rfl ?_
  refine lv_goto (tgt := 1431) hx hb dL_law_592 (by decide) ?_
  exact kk aC1 bC1 v1 aM1 bM1 g H2 locs2 ls ⟨hI1, hI2, (hB.2.2.keepC hp1).keepM hp2 hz5⟩ hJ2 hl
set_option maxHeartbeats 1000000 in
theorem lc_wed {p : Program} {l : Launch} {e : Env} {s : State} {m : MethodId} {below : List Frame} {meth : Method} {c : Code} {H : Heap} {locs : List Loc} {cells slots : Nat} {Q : State → Prop} {ls : Array Slot} {b L : Nat} {xs : Nat → Int32} {A : Nat → Prop} {D : va_G} {k : Nat → ClassId} {qC qM : Nat → Nat} {out : Nat} {g : Nat → Int64} (I : lw_In p s m meth c b L xs A D k qC qM) {K : Nat} (hK : K ≤ 600) {aC : Nat → Nat → Int32} {bC : Nat → Nat → Int64} {v : Nat → Option Nat} {aM : Nat → Nat → Int32} {bM : Nat → Nat → Int64} (hB : IB K aC v aM bM) (hJ : lw_J s A D k qC qM out (cH aC bC v) (mH aM bM) g H locs) {i : Int32} (hl : lv_has ls 7 [(4, .int i), (3, .ref out), (2, .ref (qM 0)), (1, .ref (qC 0)), (0, .ref b)]) (hin : ∀ jv : Int32, 0 ≤ jv.toInt → jv.toInt ≤ 6 → vp_in (i + jv) L) (hcs : cells ≤ 601024 ∧ slots ≤ 7293033) (kk : lw_K p l e s m b below meth c cells slots Q A D k qC qM out (K + 1) i) : W p l e room_1 s m #[Value.ref b] below meth c H locs cells slots Q (F0 m 608 ls []) := by
  obtain ⟨hx, hb, hr, hml, hown, -⟩ := id I.1
  refine lv_aload_n hx hb dL_law_608 rfl (lv_at hl 3 rfl) ?_
  refine lw_arg I hJ.2.2 (lv_at hl 4 rfl) (lv_at hl 0 rfl) (hin 1 (by decide) (by decide)) dL_law_609 dL_law_610 dL_law_612 dL_law_613 dL_law_614 (by decide) ?_
  refine lw_arg I hJ.2.2 (lv_at hl 4 rfl) (lv_at hl 0 rfl) (hin 2 (by decide) (by decide)) dL_law_615 dL_law_616 dL_law_618 dL_law_619 dL_law_620 (by decide) ?_
  refine lw_doC I hJ mtC_119 (pc_wed hK aC bC v (xs (i + 1).toNatClampNeg) (xs (i + 2).toNatClampNeg) hB.1) ⟨rfl, (by decide : (parseMethodDescriptor yX12_wed.desc).map (fun d => d.parameters.length) = some 2)⟩ (lw_ws lm_83 lm_84 lm_85 lm_4 lm_86) (by decide) (by decide) dL_law_621 hl.1 rfl (by decide) hcs ?_
  intro aC1 bC1 v1 x1 H1 locs1 hI1 hp1 hJ1
  refine lv_pop hx hb dL_law_624 rfl ?_
  refine lv_aload_n hx hb dL_law_625 rfl (lv_at hl 2 rfl) ?_
  refine lw_arg I hJ1.2.2 (lv_at hl 4 rfl) (lv_at hl 0 rfl) (hin 1 (by decide) (by decide)) dL_law_626 dL_law_627 dL_law_629 dL_law_630 dL_law_631 (by decide) ?_
  refine lw_arg I hJ1.2.2 (lv_at hl 4 rfl) (lv_at hl 0 rfl) (hin 2 (by decide) (by decide)) dL_law_632 dL_law_633 dL_law_635 dL_law_636 dL_law_637 (by decide) ?_
  refine lw_doM I hJ1 mtM_73 (pm_wed hK aM bM (xs (i + 1).toNatClampNeg) (xs (i + 2).toNatClampNeg) hB.2.1) ⟨rfl, (by decide : (parseMethodDescriptor yX13_wed.desc).map (fun d => d.parameters.length) = some 2)⟩ (lw_ws lm_87 lm_88 lm_89 lm_9 lm_90) (by decide) (by decide) dL_law_638 hl.1 rfl (by decide) hcs ?_
  intro aM1 bM1 x2 H2 locs2 hI2 hz5 hp2 hJ2
  refine lv_pop hx hb dL_law_641 rfl ?_
  refine lv_goto (tgt := 1431) hx hb dL_law_642 (by decide) ?_
  exact kk aC1 bC1 v1 aM1 bM1 g H2 locs2 ls ⟨hI1, hI2, (hB.2.2.keepC hp1).keepM hp2 hz5⟩ hJ2 hl
set_option maxHeartbeats 1000000 in
theorem lc_seasons {p : Program} {l : Launch} {e : Env} {s : State} {m : MethodId} {below : List Frame} {meth : Method} {c : Code} {H : Heap} {locs : List Loc} {cells slots : Nat} {Q : State → Prop} {ls : Array Slot} {b L : Nat} {xs : Nat → Int32} {A : Nat → Prop} {D : va_G} {k : Nat → ClassId} {qC qM : Nat → Nat} {out : Nat} {g : Nat → Int64} (I : lw_In p s m meth c b L xs A D k qC qM) {K : Nat} (hK : K ≤ 600) {aC : Nat → Nat → Int32} {bC : Nat → Nat → Int64} {v : Nat → Option Nat} {aM : Nat → Nat → Int32} {bM : Nat → Nat → Int64} (hB : IB K aC v aM bM) (hJ : lw_J s A D k qC qM out (cH aC bC v) (mH aM bM) g H locs) {i : Int32} (hl : lv_has ls 7 [(4, .int i), (3, .ref out), (2, .ref (qM 0)), (1, .ref (qC 0)), (0, .ref b)]) (hin : ∀ jv : Int32, 0 ≤ jv.toInt → jv.toInt ≤ 6 → vp_in (i + jv) L) (hcs : cells ≤ 601024 ∧ slots ≤ 7293033) (kk : lw_K p l e s m b below meth c cells slots Q A D k qC qM out (K + 1) i) : W p l e room_1 s m #[Value.ref b] below meth c H locs cells slots Q (F0 m 670 ls []) := by
  obtain ⟨hx, hb, hr, hml, hown, -⟩ := id I.1
  refine lv_aload_n hx hb dL_law_670 rfl (lv_at hl 3 rfl) ?_
  refine lw_arg I hJ.2.2 (lv_at hl 4 rfl) (lv_at hl 0 rfl) (hin 1 (by decide) (by decide)) dL_law_671 dL_law_672 dL_law_674 dL_law_675 dL_law_676 (by decide) ?_
  refine lw_doC I hJ mtC_121 (pc_seasons hK aC bC v (xs (i + 1).toNatClampNeg) hB.1) ⟨rfl, (by decide : (parseMethodDescriptor yX12_seasons.desc).map (fun d => d.parameters.length) = some 1)⟩ (lw_ws lm_99 lm_100 lm_101 lm_4 lm_102) (by decide) (by decide) dL_law_677 hl.1 rfl (by decide) hcs ?_
  intro aC1 bC1 v1 x1 H1 locs1 hI1 hp1 hJ1
  refine lv_pop hx hb dL_law_680 rfl ?_
  refine lv_aload_n hx hb dL_law_681 rfl (lv_at hl 2 rfl) ?_
  refine lw_arg I hJ1.2.2 (lv_at hl 4 rfl) (lv_at hl 0 rfl) (hin 1 (by decide) (by decide)) dL_law_682 dL_law_683 dL_law_685 dL_law_686 dL_law_687 (by decide) ?_
  refine lw_doM I hJ1 mtM_76 (pm_seasons hK aM bM (xs (i + 1).toNatClampNeg) hB.2.1) ⟨rfl, (by decide : (parseMethodDescriptor yX13_seasons.desc).map (fun d => d.parameters.length) = some 1)⟩ (lw_ws lm_103 lm_104 lm_105 lm_9 lm_106) (by decide) (by decide) dL_law_688 hl.1 rfl (by decide) hcs ?_
  intro aM1 bM1 x2 H2 locs2 hI2 hz5 hp2 hJ2
  refine lv_pop hx hb dL_law_691 rfl ?_
  refine lv_goto (tgt := 1431) hx hb dL_law_692 (by decide) ?_
  exact kk aC1 bC1 v1 aM1 bM1 g H2 locs2 ls ⟨hI1, hI2, (hB.2.2.keepC hp1).keepM hp2 hz5⟩ hJ2 hl
set_option maxHeartbeats 1000000 in
theorem lc_judged {p : Program} {l : Launch} {e : Env} {s : State} {m : MethodId} {below : List Frame} {meth : Method} {c : Code} {H : Heap} {locs : List Loc} {cells slots : Nat} {Q : State → Prop} {ls : Array Slot} {b L : Nat} {xs : Nat → Int32} {A : Nat → Prop} {D : va_G} {k : Nat → ClassId} {qC qM : Nat → Nat} {out : Nat} {g : Nat → Int64} (I : lw_In p s m meth c b L xs A D k qC qM) {K : Nat} (hK : K ≤ 600) {aC : Nat → Nat → Int32} {bC : Nat → Nat → Int64} {v : Nat → Option Nat} {aM : Nat → Nat → Int32} {bM : Nat → Nat → Int64} (hB : IB K aC v aM bM) (hJ : lw_J s A D k qC qM out (cH aC bC v) (mH aM bM) g H locs) {i : Int32} (hl : lv_has ls 7 [(4, .int i), (3, .ref out), (2, .ref (qM 0)), (1, .ref (qC 0)), (0, .ref b)]) (hin : ∀ jv : Int32, 0 ≤ jv.toInt → jv.toInt ≤ 6 → vp_in (i + jv) L) (hcs : cells ≤ 601024 ∧ slots ≤ 7293033) (kk : lw_K p l e s m b below meth c cells slots Q A D k qC qM out (K + 1) i) : W p l e room_1 s m #[Value.ref b] below meth c H locs cells slots Q (F0 m 708 ls []) := by
  obtain ⟨hx, hb, hr, hml, hown, -⟩ := id I.1
  refine lv_aload_n hx hb dL_law_708 rfl (lv_at hl 3 rfl) ?_
  refine lw_arg I hJ.2.2 (lv_at hl 4 rfl) (lv_at hl 0 rfl) (hin 1 (by decide) (by decide)) dL_law_709 dL_law_710 dL_law_712 dL_law_713 dL_law_714 (by decide) ?_
  refine lw_doC I hJ mtC_126 (pc_judged hK aC bC v (xs (i + 1).toNatClampNeg) hB.1) ⟨rfl, (by decide : (parseMethodDescriptor yX12_judged.desc).map (fun d => d.parameters.length) = some 1)⟩ (lw_ws lm_115 lm_116 lm_117 lm_4 lm_118) (by decide) (by decide) dL_law_715 hl.1 rfl (by decide) hcs ?_
  intro aC1 bC1 v1 x1 H1 locs1 hI1 hp1 hJ1
  refine lv_pop hx hb dL_law_718 rfl ?_
  refine lv_aload_n hx hb dL_law_719 rfl (lv_at hl 2 rfl) ?_
  refine lw_arg I hJ1.2.2 (lv_at hl 4 rfl) (lv_at hl 0 rfl) (hin 1 (by decide) (by decide)) dL_law_720 dL_law_721 dL_law_723 dL_law_724 dL_law_725 (by decide) ?_
  refine lw_doM I hJ1 mtM_79 (pm_judged hK aM bM (xs (i + 1).toNatClampNeg) hB.2.1) ⟨rfl, (by decide : (parseMethodDescriptor yX13_judged.desc).map (fun d => d.parameters.length) = some 1)⟩ (lw_ws lm_119 lm_120 lm_121 lm_9 lm_122) (by decide) (by decide) dL_law_726 hl.1 rfl (by decide) hcs ?_
  intro aM1 bM1 x2 H2 locs2 hI2 hz5 hp2 hJ2
  refine lv_pop hx hb dL_law_729 rfl ?_
  refine lv_goto (tgt := 1431) hx hb dL_law_730 (by decide) ?_
  exact kk aC1 bC1 v1 aM1 bM1 g H2 locs2 ls ⟨hI1, hI2, (hB.2.2.keepC hp1).keepM hp2 hz5⟩ hJ2 hl
set_option maxHeartbeats 1000000 in
theorem lc_love {p : Program} {l : Launch} {e : Env} {s : State} {m : MethodId} {below : List Frame} {meth : Method} {c : Code} {H : Heap} {locs : List Loc} {cells slots : Nat} {Q : State → Prop} {ls : Array Slot} {b L : Nat} {xs : Nat → Int32} {A : Nat → Prop} {D : va_G} {k : Nat → ClassId} {qC qM : Nat → Nat} {out : Nat} {g : Nat → Int64} (I : lw_In p s m meth c b L xs A D k qC qM) {K : Nat} (hK : K ≤ 600) {aC : Nat → Nat → Int32} {bC : Nat → Nat → Int64} {v : Nat → Option Nat} {aM : Nat → Nat → Int32} {bM : Nat → Nat → Int64} (hB : IB K aC v aM bM) (hJ : lw_J s A D k qC qM out (cH aC bC v) (mH aM bM) g H locs) {i : Int32} (hl : lv_has ls 7 [(4, .int i), (3, .ref out), (2, .ref (qM 0)), (1, .ref (qC 0)), (0, .ref b)]) (hin : ∀ jv : Int32, 0 ≤ jv.toInt → jv.toInt ≤ 6 → vp_in (i + jv) L) (hcs : cells ≤ 601024 ∧ slots ≤ 7293033) (kk : lw_K p l e s m b below meth c cells slots Q A D k qC qM out (K + 1) i) : W p l e room_1 s m #[Value.ref b] below meth c H locs cells slots Q (F0 m 770 ls []) := by
  obtain ⟨hx, hb, hr, hml, hown, -⟩ := id I.1
  refine lv_aload_n hx hb dL_law_770 rfl (lv_at hl 3 rfl) ?_
  refine lw_arg I hJ.2.2 (lv_at hl 4 rfl) (lv_at hl 0 rfl) (hin 1 (by decide) (by decide)) dL_law_771 dL_law_772 dL_law_774 dL_law_775 dL_law_776 (by decide) ?_
  refine lw_doC I hJ mtC_132 (pc_love hK aC bC v (xs (i + 1).toNatClampNeg) hB.1) ⟨rfl, (by decide : (parseMethodDescriptor yX12_love.desc).map (fun d => d.parameters.length) = some 1)⟩ (lw_ws lm_131 lm_132 lm_133 lm_4 lm_134) (by decide) (by decide) dL_law_777 hl.1 rfl (by decide) hcs ?_
  intro aC1 bC1 v1 x1 H1 locs1 hI1 hp1 hJ1
  refine lv_pop hx hb dL_law_780 rfl ?_
  refine lv_aload_n hx hb dL_law_781 rfl (lv_at hl 2 rfl) ?_
  refine lw_arg I hJ1.2.2 (lv_at hl 4 rfl) (lv_at hl 0 rfl) (hin 1 (by decide) (by decide)) dL_law_782 dL_law_783 dL_law_785 dL_law_786 dL_law_787 (by decide) ?_
  refine lw_doM I hJ1 mtM_82 (pm_love hK aM bM (xs (i + 1).toNatClampNeg) hB.2.1) ⟨rfl, (by decide : (parseMethodDescriptor yX13_love.desc).map (fun d => d.parameters.length) = some 1)⟩ (lw_ws lm_135 lm_136 lm_137 lm_9 lm_138) (by decide) (by decide) dL_law_788 hl.1 rfl (by decide) hcs ?_
  intro aM1 bM1 x2 H2 locs2 hI2 hz5 hp2 hJ2
  refine lv_pop hx hb dL_law_791 rfl ?_
  refine lv_goto (tgt := 1431) hx hb dL_law_792 (by decide) ?_
  exact kk aC1 bC1 v1 aM1 bM1 g H2 locs2 ls ⟨hI1, hI2, (hB.2.2.keepC hp1).keepM hp2 hz5⟩ hJ2 hl
set_option maxHeartbeats 1000000 in
theorem lc_match {p : Program} {l : Launch} {e : Env} {s : State} {m : MethodId} {below : List Frame} {meth : Method} {c : Code} {H : Heap} {locs : List Loc} {cells slots : Nat} {Q : State → Prop} {ls : Array Slot} {b L : Nat} {xs : Nat → Int32} {A : Nat → Prop} {D : va_G} {k : Nat → ClassId} {qC qM : Nat → Nat} {out : Nat} {g : Nat → Int64} (I : lw_In p s m meth c b L xs A D k qC qM) {K : Nat} (hK : K ≤ 600) {aC : Nat → Nat → Int32} {bC : Nat → Nat → Int64} {v : Nat → Option Nat} {aM : Nat → Nat → Int32} {bM : Nat → Nat → Int64} (hB : IB K aC v aM bM) (hJ : lw_J s A D k qC qM out (cH aC bC v) (mH aM bM) g H locs) {i : Int32} (hl : lv_has ls 7 [(4, .int i), (3, .ref out), (2, .ref (qM 0)), (1, .ref (qC 0)), (0, .ref b)]) (hin : ∀ jv : Int32, 0 ≤ jv.toInt → jv.toInt ≤ 6 → vp_in (i + jv) L) (hcs : cells ≤ 601024 ∧ slots ≤ 7293033) (kk : lw_K p l e s m b below meth c cells slots Q A D k qC qM out (K + 1) i) : W p l e room_1 s m #[Value.ref b] below meth c H locs cells slots Q (F0 m 820 ls []) := by
  obtain ⟨hx, hb, hr, hml, hown, -⟩ := id I.1
  refine lv_aload_n hx hb dL_law_820 rfl (lv_at hl 3 rfl) ?_
  refine lw_arg I hJ.2.2 (lv_at hl 4 rfl) (lv_at hl 0 rfl) (hin 1 (by decide) (by decide)) dL_law_821 dL_law_822 dL_law_824 dL_law_825 dL_law_826 (by decide) ?_
  refine lw_doC I hJ mtC_134 (pc_match hK aC bC v (xs (i + 1).toNatClampNeg) hB.1) ⟨rfl, (by decide : (parseMethodDescriptor yX12_match.desc).map (fun d => d.parameters.length) = some 1)⟩ (lw_ws lm_147 lm_148 lm_149 lm_4 lm_150) (by decide) (by decide) dL_law_827 hl.1 rfl (by decide) hcs ?_
  intro aC1 bC1 v1 x1 H1 locs1 hI1 hp1 hJ1
  refine lv_pop hx hb dL_law_830 rfl ?_
  refine lv_aload_n hx hb dL_law_831 rfl (lv_at hl 2 rfl) ?_
  refine lw_arg I hJ1.2.2 (lv_at hl 4 rfl) (lv_at hl 0 rfl) (hin 1 (by decide) (by decide)) dL_law_832 dL_law_833 dL_law_835 dL_law_836 dL_law_837 (by decide) ?_
  refine lw_doM I hJ1 mtM_90 (pm_match hK aM bM (xs (i + 1).toNatClampNeg) hB.2.1) ⟨rfl, (by decide : (parseMethodDescriptor yX13_match.desc).map (fun d => d.parameters.length) = some 1)⟩ (lw_ws lm_151 lm_152 lm_153 lm_9 lm_154) (by decide) (by decide) dL_law_838 hl.1 rfl (by decide) hcs ?_
  intro aM1 bM1 x2 H2 locs2 hI2 hz5 hp2 hJ2
  refine lv_pop hx hb dL_law_841 rfl ?_
  refine lv_goto (tgt := 1431) hx hb dL_law_842 (by decide) ?_
  exact kk aC1 bC1 v1 aM1 bM1 g H2 locs2 ls ⟨hI1, hI2, (hB.2.2.keepC hp1).keepM hp2 hz5⟩ hJ2 hl
set_option maxHeartbeats 1000000 in
theorem lc_peace {p : Program} {l : Launch} {e : Env} {s : State} {m : MethodId} {below : List Frame} {meth : Method} {c : Code} {H : Heap} {locs : List Loc} {cells slots : Nat} {Q : State → Prop} {ls : Array Slot} {b L : Nat} {xs : Nat → Int32} {A : Nat → Prop} {D : va_G} {k : Nat → ClassId} {qC qM : Nat → Nat} {out : Nat} {g : Nat → Int64} (I : lw_In p s m meth c b L xs A D k qC qM) {K : Nat} (hK : K ≤ 600) {aC : Nat → Nat → Int32} {bC : Nat → Nat → Int64} {v : Nat → Option Nat} {aM : Nat → Nat → Int32} {bM : Nat → Nat → Int64} (hB : IB K aC v aM bM) (hJ : lw_J s A D k qC qM out (cH aC bC v) (mH aM bM) g H locs) {i : Int32} (hl : lv_has ls 7 [(4, .int i), (3, .ref out), (2, .ref (qM 0)), (1, .ref (qC 0)), (0, .ref b)]) (hin : ∀ jv : Int32, 0 ≤ jv.toInt → jv.toInt ≤ 6 → vp_in (i + jv) L) (hcs : cells ≤ 601024 ∧ slots ≤ 7293033) (kk : lw_K p l e s m b below meth c cells slots Q A D k qC qM out (K + 1) i) : W p l e room_1 s m #[Value.ref b] below meth c H locs cells slots Q (F0 m 894 ls []) := by
  obtain ⟨hx, hb, hr, hml, hown, -⟩ := id I.1
  refine lv_aload_n hx hb dL_law_894 rfl (lv_at hl 3 rfl) ?_
  refine lw_doC I hJ mtC_140 (pc_peace hK aC bC v  hB.1) ⟨rfl, (by decide : (parseMethodDescriptor yX12_peace.desc).map (fun d => d.parameters.length) = some 0)⟩ (lw_ws lm_163 lm_164 lm_165 lm_4 lm_166) (by decide) (by decide) dL_law_895 hl.1 rfl (by decide) hcs ?_
  intro aC1 bC1 v1 x1 H1 locs1 hI1 hp1 hJ1
  refine lv_pop hx hb dL_law_898 rfl ?_
  refine lv_aload_n hx hb dL_law_899 rfl (lv_at hl 2 rfl) ?_
  refine lw_doM I hJ1 mtM_93 (pm_peace hK aM bM  hB.2.1) ⟨rfl, (by decide : (parseMethodDescriptor yX13_peace.desc).map (fun d => d.parameters.length) = some 0)⟩ (lw_ws lm_167 lm_168 lm_169 lm_9 lm_170) (by decide) (by decide) dL_law_900 hl.1 rfl (by decide) hcs ?_
  intro aM1 bM1 x2 H2 locs2 hI2 hz5 hp2 hJ2
  refine lv_pop hx hb dL_law_903 rfl ?_
  refine lv_goto (tgt := 1431) hx hb dL_law_904 (by decide) ?_
  exact kk aC1 bC1 v1 aM1 bM1 g H2 locs2 ls ⟨hI1, hI2, (hB.2.2.keepC hp1).keepM hp2 hz5⟩ hJ2 hl
set_option maxHeartbeats 1000000 in
theorem lc_eddies {p : Program} {l : Launch} {e : Env} {s : State} {m : MethodId} {below : List Frame} {meth : Method} {c : Code} {H : Heap} {locs : List Loc} {cells slots : Nat} {Q : State → Prop} {ls : Array Slot} {b L : Nat} {xs : Nat → Int32} {A : Nat → Prop} {D : va_G} {k : Nat → ClassId} {qC qM : Nat → Nat} {out : Nat} {g : Nat → Int64} (I : lw_In p s m meth c b L xs A D k qC qM) {K : Nat} (hK : K ≤ 600) {aC : Nat → Nat → Int32} {bC : Nat → Nat → Int64} {v : Nat → Option Nat} {aM : Nat → Nat → Int32} {bM : Nat → Nat → Int64} (hB : IB K aC v aM bM) (hJ : lw_J s A D k qC qM out (cH aC bC v) (mH aM bM) g H locs) {i : Int32} (hl : lv_has ls 7 [(4, .int i), (3, .ref out), (2, .ref (qM 0)), (1, .ref (qC 0)), (0, .ref b)]) (hin : ∀ jv : Int32, 0 ≤ jv.toInt → jv.toInt ≤ 6 → vp_in (i + jv) L) (hcs : cells ≤ 601024 ∧ slots ≤ 7293033) (kk : lw_K p l e s m b below meth c cells slots Q A D k qC qM out (K + 1) i) : W p l e room_1 s m #[Value.ref b] below meth c H locs cells slots Q (F0 m 932 ls []) := by
  obtain ⟨hx, hb, hr, hml, hown, -⟩ := id I.1
  refine lv_aload_n hx hb dL_law_932 rfl (lv_at hl 3 rfl) ?_
  refine lw_doC I hJ mtC_143 (pc_eddies hK aC bC v  hB.1) ⟨rfl, (by decide : (parseMethodDescriptor yX12_eddies.desc).map (fun d => d.parameters.length) = some 0)⟩ (lw_ws lm_179 lm_180 lm_181 lm_4 lm_182) (by decide) (by decide) dL_law_933 hl.1 rfl (by decide) hcs ?_
  intro aC1 bC1 v1 x1 H1 locs1 hI1 hp1 hJ1
  refine lv_pop hx hb dL_law_936 rfl ?_
  refine lv_aload_n hx hb dL_law_937 rfl (lv_at hl 2 rfl) ?_
  refine lw_doM I hJ1 mtM_95 (pm_eddies hK aM bM  hB.2.1) ⟨rfl, (by decide : (parseMethodDescriptor yX13_eddies.desc).map (fun d => d.parameters.length) = some 0)⟩ (lw_ws lm_183 lm_184 lm_185 lm_9 lm_186) (by decide) (by decide) dL_law_938 hl.1 rfl (by decide) hcs ?_
  intro aM1 bM1 x2 H2 locs2 hI2 hz5 hp2 hJ2
  refine lv_pop hx hb dL_law_941 rfl ?_
  refine lv_goto (tgt := 1431) hx hb dL_law_942 (by decide) ?_
  exact kk aC1 bC1 v1 aM1 bM1 g H2 locs2 ls ⟨hI1, hI2, (hB.2.2.keepC hp1).keepM hp2 hz5⟩ hJ2 hl
set_option maxHeartbeats 1000000 in
theorem lc_storms {p : Program} {l : Launch} {e : Env} {s : State} {m : MethodId} {below : List Frame} {meth : Method} {c : Code} {H : Heap} {locs : List Loc} {cells slots : Nat} {Q : State → Prop} {ls : Array Slot} {b L : Nat} {xs : Nat → Int32} {A : Nat → Prop} {D : va_G} {k : Nat → ClassId} {qC qM : Nat → Nat} {out : Nat} {g : Nat → Int64} (I : lw_In p s m meth c b L xs A D k qC qM) {K : Nat} (hK : K ≤ 600) {aC : Nat → Nat → Int32} {bC : Nat → Nat → Int64} {v : Nat → Option Nat} {aM : Nat → Nat → Int32} {bM : Nat → Nat → Int64} (hB : IB K aC v aM bM) (hJ : lw_J s A D k qC qM out (cH aC bC v) (mH aM bM) g H locs) {i : Int32} (hl : lv_has ls 7 [(4, .int i), (3, .ref out), (2, .ref (qM 0)), (1, .ref (qC 0)), (0, .ref b)]) (hin : ∀ jv : Int32, 0 ≤ jv.toInt → jv.toInt ≤ 6 → vp_in (i + jv) L) (hcs : cells ≤ 601024 ∧ slots ≤ 7293033) (kk : lw_K p l e s m b below meth c cells slots Q A D k qC qM out (K + 1) i) : W p l e room_1 s m #[Value.ref b] below meth c H locs cells slots Q (F0 m 1034 ls []) := by
  obtain ⟨hx, hb, hr, hml, hown, -⟩ := id I.1
  refine lv_aload_n hx hb dL_law_1034 rfl (lv_at hl 3 rfl) ?_
  refine lw_arg I hJ.2.2 (lv_at hl 4 rfl) (lv_at hl 0 rfl) (hin 1 (by decide) (by decide)) dL_law_1035 dL_law_1036 dL_law_1038 dL_law_1039 dL_law_1040 (by decide) ?_
  refine lw_arg I hJ.2.2 (lv_at hl 4 rfl) (lv_at hl 0 rfl) (hin 2 (by decide) (by decide)) dL_law_1041 dL_law_1042 dL_law_1044 dL_law_1045 dL_law_1046 (by decide) ?_
  refine lw_doC I hJ mtC_147 (pc_storms hK aC bC v (xs (i + 1).toNatClampNeg) (xs (i + 2).toNatClampNeg) hB.1) ⟨rfl, (by decide : (parseMethodDescriptor yX12_storms.desc).map (fun d => d.parameters.length) = some 2)⟩ (lw_ws lm_195 lm_196 lm_197 lm_4 lm_198) (by decide) (by decide) dL_law_1047 hl.1 rfl (by decide) hcs ?_
  intro aC1 bC1 v1 x1 H1 locs1 hI1 hp1 hJ1
  refine lv_pop hx hb dL_law_1050 rfl ?_
  refine lv_aload_n hx hb dL_law_1051 rfl (lv_at hl 2 rfl) ?_
  refine lw_arg I hJ1.2.2 (lv_at hl 4 rfl) (lv_at hl 0 rfl) (hin 1 (by decide) (by decide)) dL_law_1052 dL_law_1053 dL_law_1055 dL_law_1056 dL_law_1057 (by decide) ?_
  refine lw_arg I hJ1.2.2 (lv_at hl 4 rfl) (lv_at hl 0 rfl) (hin 2 (by decide) (by decide)) dL_law_1058 dL_law_1059 dL_law_1061 dL_law_1062 dL_law_1063 (by decide) ?_
  refine lw_doM I hJ1 mtM_100 (pm_storms hK aM bM (xs (i + 1).toNatClampNeg) (xs (i + 2).toNatClampNeg) hB.2.1) ⟨rfl, (by decide : (parseMethodDescriptor yX13_storms.desc).map (fun d => d.parameters.length) = some 2)⟩ (lw_ws lm_199 lm_200 lm_201 lm_9 lm_202) (by decide) (by decide) dL_law_1064 hl.1 rfl (by decide) hcs ?_
  intro aM1 bM1 x2 H2 locs2 hI2 hz5 hp2 hJ2
  refine lv_pop hx hb dL_law_1067 rfl ?_
  refine lv_goto (tgt := 1431) hx hb dL_law_1068 (by decide) ?_
  exact kk aC1 bC1 v1 aM1 bM1 g H2 locs2 ls ⟨hI1, hI2, (hB.2.2.keepC hp1).keepM hp2 hz5⟩ hJ2 hl
set_option maxHeartbeats 1000000 in
theorem lc_tell {p : Program} {l : Launch} {e : Env} {s : State} {m : MethodId} {below : List Frame} {meth : Method} {c : Code} {H : Heap} {locs : List Loc} {cells slots : Nat} {Q : State → Prop} {ls : Array Slot} {b L : Nat} {xs : Nat → Int32} {A : Nat → Prop} {D : va_G} {k : Nat → ClassId} {qC qM : Nat → Nat} {out : Nat} {g : Nat → Int64} (I : lw_In p s m meth c b L xs A D k qC qM) {K : Nat} (hK : K ≤ 600) {aC : Nat → Nat → Int32} {bC : Nat → Nat → Int64} {v : Nat → Option Nat} {aM : Nat → Nat → Int32} {bM : Nat → Nat → Int64} (hB : IB K aC v aM bM) (hJ : lw_J s A D k qC qM out (cH aC bC v) (mH aM bM) g H locs) {i : Int32} (hl : lv_has ls 7 [(4, .int i), (3, .ref out), (2, .ref (qM 0)), (1, .ref (qC 0)), (0, .ref b)]) (hin : ∀ jv : Int32, 0 ≤ jv.toInt → jv.toInt ≤ 6 → vp_in (i + jv) L) (hcs : cells ≤ 601024 ∧ slots ≤ 7293033) (kk : lw_K p l e s m b below meth c cells slots Q A D k qC qM out (K + 1) i) : W p l e room_1 s m #[Value.ref b] below meth c H locs cells slots Q (F0 m 1120 ls []) := by
  obtain ⟨hx, hb, hr, hml, hown, -⟩ := id I.1
  refine lv_aload_n hx hb dL_law_1120 rfl (lv_at hl 3 rfl) ?_
  refine lw_arg I hJ.2.2 (lv_at hl 4 rfl) (lv_at hl 0 rfl) (hin 1 (by decide) (by decide)) dL_law_1121 dL_law_1122 dL_law_1124 dL_law_1125 dL_law_1126 (by decide) ?_
  refine lw_arg I hJ.2.2 (lv_at hl 4 rfl) (lv_at hl 0 rfl) (hin 2 (by decide) (by decide)) dL_law_1127 dL_law_1128 dL_law_1130 dL_law_1131 dL_law_1132 (by decide) ?_
  refine lw_arg I hJ.2.2 (lv_at hl 4 rfl) (lv_at hl 0 rfl) (hin 3 (by decide) (by decide)) dL_law_1133 dL_law_1134 dL_law_1136 dL_law_1137 dL_law_1138 (by decide) ?_
  refine lw_doC I hJ mtC_149 (pc_tell hK aC bC v (xs (i + 1).toNatClampNeg) (xs (i + 2).toNatClampNeg) (xs (i + 3).toNatClampNeg) hB.1) ⟨rfl, (by decide : (parseMethodDescriptor yX12_tell.desc).map (fun d => d.parameters.length) = some 3)⟩ (lw_ws lm_211 lm_212 lm_213 lm_4 lm_214) (by decide) (by decide) dL_law_1139 hl.1 rfl (by decide) hcs ?_
  intro aC1 bC1 v1 x1 H1 locs1 hI1 hp1 hJ1
  refine lv_pop hx hb dL_law_1142 rfl ?_
  refine lv_aload_n hx hb dL_law_1143 rfl (lv_at hl 2 rfl) ?_
  refine lw_arg I hJ1.2.2 (lv_at hl 4 rfl) (lv_at hl 0 rfl) (hin 1 (by decide) (by decide)) dL_law_1144 dL_law_1145 dL_law_1147 dL_law_1148 dL_law_1149 (by decide) ?_
  refine lw_arg I hJ1.2.2 (lv_at hl 4 rfl) (lv_at hl 0 rfl) (hin 2 (by decide) (by decide)) dL_law_1150 dL_law_1151 dL_law_1153 dL_law_1154 dL_law_1155 (by decide) ?_
  refine lw_arg I hJ1.2.2 (lv_at hl 4 rfl) (lv_at hl 0 rfl) (hin 3 (by decide) (by decide)) dL_law_1156 dL_law_1157 dL_law_1159 dL_law_1160 dL_law_1161 (by decide) ?_
  refine lw_doM I hJ1 mtM_103 (pm_tell hK aM bM (xs (i + 1).toNatClampNeg) (xs (i + 2).toNatClampNeg) (xs (i + 3).toNatClampNeg) hB.2.1) ⟨rfl, (by decide : (parseMethodDescriptor yX13_tell.desc).map (fun d => d.parameters.length) = some 3)⟩ (lw_ws lm_215 lm_216 lm_217 lm_9 lm_218) (by decide) (by decide) dL_law_1162 hl.1 rfl (by decide) hcs ?_
  intro aM1 bM1 x2 H2 locs2 hI2 hz5 hp2 hJ2
  refine lv_pop hx hb dL_law_1165 rfl ?_
  refine lv_goto (tgt := 1431) hx hb dL_law_1166 (by decide) ?_
  exact kk aC1 bC1 v1 aM1 bM1 g H2 locs2 ls ⟨hI1, hI2, (hB.2.2.keepC hp1).keepM hp2 hz5⟩ hJ2 hl
set_option maxHeartbeats 1000000 in
theorem lc_rests {p : Program} {l : Launch} {e : Env} {s : State} {m : MethodId} {below : List Frame} {meth : Method} {c : Code} {H : Heap} {locs : List Loc} {cells slots : Nat} {Q : State → Prop} {ls : Array Slot} {b L : Nat} {xs : Nat → Int32} {A : Nat → Prop} {D : va_G} {k : Nat → ClassId} {qC qM : Nat → Nat} {out : Nat} {g : Nat → Int64} (I : lw_In p s m meth c b L xs A D k qC qM) {K : Nat} (hK : K ≤ 600) {aC : Nat → Nat → Int32} {bC : Nat → Nat → Int64} {v : Nat → Option Nat} {aM : Nat → Nat → Int32} {bM : Nat → Nat → Int64} (hB : IB K aC v aM bM) (hJ : lw_J s A D k qC qM out (cH aC bC v) (mH aM bM) g H locs) {i : Int32} (hl : lv_has ls 7 [(4, .int i), (3, .ref out), (2, .ref (qM 0)), (1, .ref (qC 0)), (0, .ref b)]) (hin : ∀ jv : Int32, 0 ≤ jv.toInt → jv.toInt ≤ 6 → vp_in (i + jv) L) (hcs : cells ≤ 601024 ∧ slots ≤ 7293033) (kk : lw_K p l e s m b below meth c cells slots Q A D k qC qM out (K + 1) i) : W p l e room_1 s m #[Value.ref b] below meth c H locs cells slots Q (F0 m 1194 ls []) := by
  obtain ⟨hx, hb, hr, hml, hown, -⟩ := id I.1
  refine lv_aload_n hx hb dL_law_1194 rfl (lv_at hl 3 rfl) ?_
  refine lw_arg I hJ.2.2 (lv_at hl 4 rfl) (lv_at hl 0 rfl) (hin 1 (by decide) (by decide)) dL_law_1195 dL_law_1196 dL_law_1198 dL_law_1199 dL_law_1200 (by decide) ?_
  refine lw_arg I hJ.2.2 (lv_at hl 4 rfl) (lv_at hl 0 rfl) (hin 2 (by decide) (by decide)) dL_law_1201 dL_law_1202 dL_law_1204 dL_law_1205 dL_law_1206 (by decide) ?_
  refine lw_arg I hJ.2.2 (lv_at hl 4 rfl) (lv_at hl 0 rfl) (hin 3 (by decide) (by decide)) dL_law_1207 dL_law_1208 dL_law_1210 dL_law_1211 dL_law_1212 (by decide) ?_
  refine lw_arg I hJ.2.2 (lv_at hl 4 rfl) (lv_at hl 0 rfl) (hin 4 (by decide) (by decide)) dL_law_1213 dL_law_1214 dL_law_1216 dL_law_1217 dL_law_1218 (by decide) ?_
  refine lw_doC I hJ mtC_151 (pc_rests hK aC bC v (xs (i + 1).toNatClampNeg) (xs (i + 2).toNatClampNeg) (xs (i + 3).toNatClampNeg) (xs (i + 4).toNatClampNeg) hB.1) ⟨rfl, (by decide : (parseMethodDescriptor yX12_rests.desc).map (fun d => d.parameters.length) = some 4)⟩ (lw_ws lm_227 lm_228 lm_229 lm_4 lm_230) (by decide) (by decide) dL_law_1219 hl.1 rfl (by decide) hcs ?_
  intro aC1 bC1 v1 x1 H1 locs1 hI1 hp1 hJ1
  refine lv_pop hx hb dL_law_1222 rfl ?_
  refine lv_aload_n hx hb dL_law_1223 rfl (lv_at hl 2 rfl) ?_
  refine lw_arg I hJ1.2.2 (lv_at hl 4 rfl) (lv_at hl 0 rfl) (hin 1 (by decide) (by decide)) dL_law_1224 dL_law_1225 dL_law_1227 dL_law_1228 dL_law_1229 (by decide) ?_
  refine lw_arg I hJ1.2.2 (lv_at hl 4 rfl) (lv_at hl 0 rfl) (hin 2 (by decide) (by decide)) dL_law_1230 dL_law_1231 dL_law_1233 dL_law_1234 dL_law_1235 (by decide) ?_
  refine lw_arg I hJ1.2.2 (lv_at hl 4 rfl) (lv_at hl 0 rfl) (hin 3 (by decide) (by decide)) dL_law_1236 dL_law_1237 dL_law_1239 dL_law_1240 dL_law_1241 (by decide) ?_
  refine lw_arg I hJ1.2.2 (lv_at hl 4 rfl) (lv_at hl 0 rfl) (hin 4 (by decide) (by decide)) dL_law_1242 dL_law_1243 dL_law_1245 dL_law_1246 dL_law_1247 (by decide) ?_
  refine lw_doM I hJ1 mtM_107 (pm_rests hK aM bM (xs (i + 1).toNatClampNeg) (xs (i + 2).toNatClampNeg) (xs (i + 3).toNatClampNeg) (xs (i + 4).toNatClampNeg) hB.2.1) ⟨rfl, (by decide : (parseMethodDescriptor yX13_rests.desc).map (fun d => d.parameters.length) = some 4)⟩ (lw_ws lm_231 lm_232 lm_233 lm_9 lm_234) (by decide) (by decide) dL_law_1248 hl.1 rfl (by decide) hcs ?_
  intro aM1 bM1 x2 H2 locs2 hI2 hz5 hp2 hJ2
  refine lv_pop hx hb dL_law_1251 rfl ?_
  refine lv_goto (tgt := 1431) hx hb dL_law_1252 (by decide) ?_
  exact kk aC1 bC1 v1 aM1 bM1 g H2 locs2 ls ⟨hI1, hI2, (hB.2.2.keepC hp1).keepM hp2 hz5⟩ hJ2 hl
set_option maxHeartbeats 1000000 in
theorem lc_centuries {p : Program} {l : Launch} {e : Env} {s : State} {m : MethodId} {below : List Frame} {meth : Method} {c : Code} {H : Heap} {locs : List Loc} {cells slots : Nat} {Q : State → Prop} {ls : Array Slot} {b L : Nat} {xs : Nat → Int32} {A : Nat → Prop} {D : va_G} {k : Nat → ClassId} {qC qM : Nat → Nat} {out : Nat} {g : Nat → Int64} (I : lw_In p s m meth c b L xs A D k qC qM) {K : Nat} (hK : K ≤ 600) {aC : Nat → Nat → Int32} {bC : Nat → Nat → Int64} {v : Nat → Option Nat} {aM : Nat → Nat → Int32} {bM : Nat → Nat → Int64} (hB : IB K aC v aM bM) (hJ : lw_J s A D k qC qM out (cH aC bC v) (mH aM bM) g H locs) {i : Int32} (hl : lv_has ls 7 [(4, .int i), (3, .ref out), (2, .ref (qM 0)), (1, .ref (qC 0)), (0, .ref b)]) (hin : ∀ jv : Int32, 0 ≤ jv.toInt → jv.toInt ≤ 6 → vp_in (i + jv) L) (hcs : cells ≤ 601024 ∧ slots ≤ 7293033) (kk : lw_K p l e s m b below meth c cells slots Q A D k qC qM out (K + 1) i) : W p l e room_1 s m #[Value.ref b] below meth c H locs cells slots Q (F0 m 1304 ls []) := by
  obtain ⟨hx, hb, hr, hml, hown, -⟩ := id I.1
  refine lv_aload_n hx hb dL_law_1304 rfl (lv_at hl 3 rfl) ?_
  refine lw_arg I hJ.2.2 (lv_at hl 4 rfl) (lv_at hl 0 rfl) (hin 1 (by decide) (by decide)) dL_law_1305 dL_law_1306 dL_law_1308 dL_law_1309 dL_law_1310 (by decide) ?_
  refine lw_arg I hJ.2.2 (lv_at hl 4 rfl) (lv_at hl 0 rfl) (hin 2 (by decide) (by decide)) dL_law_1311 dL_law_1312 dL_law_1314 dL_law_1315 dL_law_1316 (by decide) ?_
  refine lw_arg I hJ.2.2 (lv_at hl 4 rfl) (lv_at hl 0 rfl) (hin 3 (by decide) (by decide)) dL_law_1317 dL_law_1318 dL_law_1320 dL_law_1321 dL_law_1322 (by decide) ?_
  refine lw_doC I hJ mtC_155 (pc_centuries hK aC bC v (xs (i + 1).toNatClampNeg) (xs (i + 2).toNatClampNeg) (xs (i + 3).toNatClampNeg) hB.1) ⟨rfl, (by decide : (parseMethodDescriptor yX12_centuries.desc).map (fun d => d.parameters.length) = some 3)⟩ (lw_ws lm_243 lm_244 lm_245 lm_4 lm_246) (by decide) (by decide) dL_law_1323 hl.1 rfl (by decide) hcs ?_
  intro aC1 bC1 v1 x1 H1 locs1 hI1 hp1 hJ1
  refine lv_pop hx hb dL_law_1326 rfl ?_
  refine lv_aload_n hx hb dL_law_1327 rfl (lv_at hl 2 rfl) ?_
  refine lw_arg I hJ1.2.2 (lv_at hl 4 rfl) (lv_at hl 0 rfl) (hin 1 (by decide) (by decide)) dL_law_1328 dL_law_1329 dL_law_1331 dL_law_1332 dL_law_1333 (by decide) ?_
  refine lw_arg I hJ1.2.2 (lv_at hl 4 rfl) (lv_at hl 0 rfl) (hin 2 (by decide) (by decide)) dL_law_1334 dL_law_1335 dL_law_1337 dL_law_1338 dL_law_1339 (by decide) ?_
  refine lw_arg I hJ1.2.2 (lv_at hl 4 rfl) (lv_at hl 0 rfl) (hin 3 (by decide) (by decide)) dL_law_1340 dL_law_1341 dL_law_1343 dL_law_1344 dL_law_1345 (by decide) ?_
  refine lw_doM I hJ1 mtM_111 (pm_centuries hK aM bM (xs (i + 1).toNatClampNeg) (xs (i + 2).toNatClampNeg) (xs (i + 3).toNatClampNeg) hB.2.1) ⟨rfl, (by decide : (parseMethodDescriptor yX13_centuries.desc).map (fun d => d.parameters.length) = some 3)⟩ (lw_ws lm_247 lm_248 lm_249 lm_9 lm_250) (by decide) (by decide) dL_law_1346 hl.1 rfl (by decide) hcs ?_
  intro aM1 bM1 x2 H2 locs2 hI2 hz5 hp2 hJ2
  refine lv_pop hx hb dL_law_1349 rfl ?_
  refine lv_goto (tgt := 1431) hx hb dL_law_1350 (by decide) ?_
  exact kk aC1 bC1 v1 aM1 bM1 g H2 locs2 ls ⟨hI1, hI2, (hB.2.2.keepC hp1).keepM hp2 hz5⟩ hJ2 hl
set_option maxHeartbeats 1000000 in
theorem lc_count {p : Program} {l : Launch} {e : Env} {s : State} {m : MethodId} {below : List Frame} {meth : Method} {c : Code} {H : Heap} {locs : List Loc} {cells slots : Nat} {Q : State → Prop} {ls : Array Slot} {b L : Nat} {xs : Nat → Int32} {A : Nat → Prop} {D : va_G} {k : Nat → ClassId} {qC qM : Nat → Nat} {out : Nat} {g : Nat → Int64} (I : lw_In p s m meth c b L xs A D k qC qM) {K : Nat} (hK : K ≤ 600) {aC : Nat → Nat → Int32} {bC : Nat → Nat → Int64} {v : Nat → Option Nat} {aM : Nat → Nat → Int32} {bM : Nat → Nat → Int64} (hB : IB K aC v aM bM) (hJ : lw_J s A D k qC qM out (cH aC bC v) (mH aM bM) g H locs) {i : Int32} (hl : lv_has ls 7 [(4, .int i), (3, .ref out), (2, .ref (qM 0)), (1, .ref (qC 0)), (0, .ref b)]) (hin : ∀ jv : Int32, 0 ≤ jv.toInt → jv.toInt ≤ 6 → vp_in (i + jv) L) (hcs : cells ≤ 601024 ∧ slots ≤ 7293033) (kk : lw_K p l e s m b below meth c cells slots Q A D k qC qM out (K + 1) i) : W p l e room_1 s m #[Value.ref b] below meth c H locs cells slots Q (F0 m 1406 ls []) := by
  obtain ⟨hx, hb, hr, hml, hown, -⟩ := id I.1
  refine lv_aload_n hx hb dL_law_1406 rfl (lv_at hl 3 rfl) ?_
  refine lw_arg I hJ.2.2 (lv_at hl 4 rfl) (lv_at hl 0 rfl) (hin 1 (by decide) (by decide)) dL_law_1407 dL_law_1408 dL_law_1410 dL_law_1411 dL_law_1412 (by decide) ?_
  refine lw_doC I hJ mtC_159 (pc_count hK aC bC v (xs (i + 1).toNatClampNeg) hB.1) ⟨rfl, (by decide : (parseMethodDescriptor yX12_count.desc).map (fun d => d.parameters.length) = some 1)⟩ (lw_ws lm_259 lm_260 lm_261 lm_4 lm_262) (by decide) (by decide) dL_law_1413 hl.1 rfl (by decide) hcs ?_
  intro aC1 bC1 v1 x1 H1 locs1 hI1 hp1 hJ1
  refine lv_pop hx hb dL_law_1416 rfl ?_
  refine lv_aload_n hx hb dL_law_1417 rfl (lv_at hl 2 rfl) ?_
  refine lw_arg I hJ1.2.2 (lv_at hl 4 rfl) (lv_at hl 0 rfl) (hin 1 (by decide) (by decide)) dL_law_1418 dL_law_1419 dL_law_1421 dL_law_1422 dL_law_1423 (by decide) ?_
  refine lw_doM I hJ1 mtM_113 (pm_count hK aM bM (xs (i + 1).toNatClampNeg) hB.2.1) ⟨rfl, (by decide : (parseMethodDescriptor yX13_count.desc).map (fun d => d.parameters.length) = some 1)⟩ (lw_ws lm_263 lm_264 lm_265 lm_9 lm_266) (by decide) (by decide) dL_law_1424 hl.1 rfl (by decide) hcs ?_
  intro aM1 bM1 x2 H2 locs2 hI2 hz5 hp2 hJ2
  refine lv_pop hx hb dL_law_1427 rfl ?_
  refine lv_goto (tgt := 1431) hx hb dL_law_1428 (by decide) ?_
  exact kk aC1 bC1 v1 aM1 bM1 g H2 locs2 ls ⟨hI1, hI2, (hB.2.2.keepC hp1).keepM hp2 hz5⟩ hJ2 hl
