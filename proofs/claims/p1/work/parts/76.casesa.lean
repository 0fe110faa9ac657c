set_option maxHeartbeats 4000000 in
set_option maxRecDepth 100000 in
theorem lc_feed {p : Program} {e : Env} {s : State} {m : MethodId} {below : List Frame} {meth : Method} {c : Code} (l : Launch) {b : Nat} {xs : Nat → Int32} (C0 : lw_At p s m meth c b 7 xs) (hts : ∀ w ∈ p_tbl, w.before #[Value.ref b] s = true) {D : va_G} {k : Nat → ClassId} (hK : va_K D vwCl (pT k) s) (hN : pN s) {A : Nat → Prop} (hA : ∀ q : Nat, s.heap.size ≤ q → A q) (hAf : ∀ q : Nat, A q → s.heap.size ≤ q) (qa ma : Nat → Nat) (gs mg : Nat → Nat → Int32) (out : Nat) (hf : p_mf mg) {H : Heap} {locs : List Loc} {ls : Array Slot} (hP : va_P D vwCl (p_big k qa ma gs mg) H) (hD : va_D A (p_big k qa ma gs mg)) (hS : va_S A s.heap H locs) (hl : lv_has ls 7 [(4, .int 0), (3, .ref out), (2, .ref (ma 0)), (1, .ref (qa 0)), (0, .ref b)]) : W p l e room_1 s m #[Value.ref b] below meth c H locs 265 37830 (lw_Z below #[Value.ref b] s) (F0 m 196 ls []) := by
  obtain ⟨hx, hb, hr, hml, hown, -, hX, hbl, hlocks, hgv⟩ := C0
  obtain ⟨hl0, hl1, hl2, hs0, hs19, hs26, hn0, hm0, hm1, hm2, hm3⟩ := hf
  have hbA : ¬ A b := fun h => absurd (hAf b h) (Nat.not_le.mpr hbl)
  have hP := hP.sub (ws' := [((qa 0), .inr (9, [.ref (qa 1), .ref (qa 6), .ref (qa 9), .ref (qa 17), .ref (qa 18), .ref (qa 19), .ref (qa 20), .ref (qa 23), .ref (qa 25), .ref (qa 28), .ref (qa 29), .ref (qa 30), .ref (qa 31), .int 0, .int 0, .int 0])), ((qa 1), .inr (7, [.ref (qa 2), .ref (qa 3), .ref (qa 4), .ref (qa 5), .int 0, .int 0, .int 0, .int 0, .int 0, .int 0, .long 0, .null])), ((qa 2), .inl (k 0, 1000, .inl (fun _ => 0))), ((ma 0), .inr (10, [.int 0, .ref (ma 1), .int 0, .int 0, .ref (ma 4), .ref (ma 5), .ref (ma 6), .int 0, .int 0, .ref (ma 9), .ref (ma 10), .ref (ma 11), .ref (ma 12), .int 0, .ref (ma 14), .ref (ma 15), .int 0, .int 0, .ref (ma 18), .ref (ma 19), .ref (ma 20), .ref (ma 21), .ref (ma 22), .int 0, .ref (ma 24), .int 0, .ref (ma 26), .int 0, .int 0, .int 0, .int 0, .ref (ma 31), .ref (ma 32), .ref (ma 33), .ref (ma 34), .ref (ma 35), .int 0, .int 0, .ref (ma 38), .ref (ma 39), .ref (ma 40), .long 0])), ((ma 1), .inl (k 1, 1000, .inl (mg 1)))]) [0, 1, 2, 133, 134] rfl
  have hD := hD.sub (ws' := [((qa 0), .inr (9, [.ref (qa 1), .ref (qa 6), .ref (qa 9), .ref (qa 17), .ref (qa 18), .ref (qa 19), .ref (qa 20), .ref (qa 23), .ref (qa 25), .ref (qa 28), .ref (qa 29), .ref (qa 30), .ref (qa 31), .int 0, .int 0, .int 0])), ((qa 1), .inr (7, [.ref (qa 2), .ref (qa 3), .ref (qa 4), .ref (qa 5), .int 0, .int 0, .int 0, .int 0, .int 0, .int 0, .long 0, .null])), ((qa 2), .inl (k 0, 1000, .inl (fun _ => 0))), ((ma 0), .inr (10, [.int 0, .ref (ma 1), .int 0, .int 0, .ref (ma 4), .ref (ma 5), .ref (ma 6), .int 0, .int 0, .ref (ma 9), .ref (ma 10), .ref (ma 11), .ref (ma 12), .int 0, .ref (ma 14), .ref (ma 15), .int 0, .int 0, .ref (ma 18), .ref (ma 19), .ref (ma 20), .ref (ma 21), .ref (ma 22), .int 0, .ref (ma 24), .int 0, .ref (ma 26), .int 0, .int 0, .int 0, .int 0, .ref (ma 31), .ref (ma 32), .ref (ma 33), .ref (ma 34), .ref (ma 35), .int 0, .int 0, .ref (ma 38), .ref (ma 39), .ref (ma 40), .long 0])), ((ma 1), .inl (k 1, 1000, .inl (mg 1)))]) [0, 1, 2, 133, 134] (by decide) rfl
  have k22 := hts (.constantLong RL 22 4294967295) wm_0
  refine lv_aload_n hx hb dL_law_196 rfl (lv_at hl 3 rfl) ?_
  refine lv_aload_n hx hb dL_law_197 rfl (lv_at hl 4 rfl) ?_
  refine lv_iload hx hb dL_law_198 (lv_at hl 0 rfl) ?_
  refine lv_iconst (v := 1) hx hb dL_law_200 (by decide) ?_
  refine lv_iadd hx hb dL_law_201 ?_
  refine p_topI (v := 1) (by decide) ?_
  refine va_sld hx hb hX hbl hbA hS (show ¬ (_ ∨ _) by decide) dL_law_202 ?_
  refine p_topI (v := (xs 1)) rfl ?_
  refine lv_i2l (v := (xs 1).toInt64) hx hb dL_law_203 rfl ?_
  refine lv_bipush (v := 32) hx hb dL_law_204 (by decide) ?_
  refine lv_lshl (v := ((xs 1).toInt64 <<< ((32 : Int32).toInt64 &&& 63))) hx hb dL_law_206 rfl ?_
  refine lv_aload_n hx hb dL_law_207 rfl (lv_at hl 4 rfl) ?_
  refine lv_iload hx hb dL_law_208 (lv_at hl 0 rfl) ?_
  refine lv_iconst (v := 2) hx hb dL_law_210 (by decide) ?_
  refine lv_iadd hx hb dL_law_211 ?_
  refine p_topI (v := 2) (by decide) ?_
  refine va_sld hx hb hX hbl hbA hS (show ¬ (_ ∨ _) by decide) dL_law_212 ?_
  refine p_topI (v := (xs 2)) rfl ?_
  refine lv_i2l (v := (xs 2).toInt64) hx hb dL_law_213 rfl ?_
  refine lv_ldc2 (v := 4294967295) hx hb hown k22 dL_law_214 ?_
  refine lv_land hx hb dL_law_217 ?_
  refine lv_lor hx hb dL_law_218 ?_
  refine lv_aload_n hx hb dL_law_219 rfl (lv_at hl 4 rfl) ?_
  refine lv_iload hx hb dL_law_220 (lv_at hl 0 rfl) ?_
  refine lv_iconst (v := 3) hx hb dL_law_222 (by decide) ?_
  refine lv_iadd hx hb dL_law_223 ?_
  refine p_topI (v := 3) (by decide) ?_
  refine va_sld hx hb hX hbl hbA hS (show ¬ (_ ∨ _) by decide) dL_law_224 ?_
  refine p_topI (v := (xs 3)) rfl ?_
  refine lv_i2l (v := (xs 3).toInt64) hx hb dL_law_225 rfl ?_
  refine lv_bipush (v := 32) hx hb dL_law_226 (by decide) ?_
  refine lv_lshl (v := ((xs 3).toInt64 <<< ((32 : Int32).toInt64 &&& 63))) hx hb dL_law_228 rfl ?_
  refine lv_aload_n hx hb dL_law_229 rfl (lv_at hl 4 rfl) ?_
  refine lv_iload hx hb dL_law_230 (lv_at hl 0 rfl) ?_
  refine lv_iconst (v := 4) hx hb dL_law_232 (by decide) ?_
  refine lv_iadd hx hb dL_law_233 ?_
  refine p_topI (v := 4) (by decide) ?_
  refine va_sld hx hb hX hbl hbA hS (show ¬ (_ ∨ _) by decide) dL_law_234 ?_
  refine p_topI (v := (xs 4)) rfl ?_
  refine lv_i2l (v := (xs 4).toInt64) hx hb dL_law_235 rfl ?_
  refine lv_ldc2 (v := 4294967295) hx hb hown k22 dL_law_236 ?_
  refine lv_land hx hb dL_law_239 ?_
  refine lv_lor hx hb dL_law_240 ?_
  refine lv_aload_n hx hb dL_law_241 rfl (lv_at hl 4 rfl) ?_
  refine lv_iload hx hb dL_law_242 (lv_at hl 0 rfl) ?_
  refine lv_iconst (v := 5) hx hb dL_law_244 (by decide) ?_
  refine lv_iadd hx hb dL_law_245 ?_
  refine p_topI (v := 5) (by decide) ?_
  refine va_sld hx hb hX hbl hbA hS (show ¬ (_ ∨ _) by decide) dL_law_246 ?_
  refine p_topI (v := (xs 5)) rfl ?_
  refine lv_i2l (v := (xs 5).toInt64) hx hb dL_law_247 rfl ?_
  refine lv_bipush (v := 32) hx hb dL_law_248 (by decide) ?_
  refine lv_lshl (v := ((xs 5).toInt64 <<< ((32 : Int32).toInt64 &&& 63))) hx hb dL_law_250 rfl ?_
  refine lv_aload_n hx hb dL_law_251 rfl (lv_at hl 4 rfl) ?_
  refine lv_iload hx hb dL_law_252 (lv_at hl 0 rfl) ?_
  refine lv_bipush (v := 6) hx hb dL_law_254 (by decide) ?_
  refine lv_iadd hx hb dL_law_256 ?_
  refine p_topI (v := 6) (by decide) ?_
  refine va_sld hx hb hX hbl hbA hS (show ¬ (_ ∨ _) by decide) dL_law_257 ?_
  refine p_topI (v := (xs 6)) rfl ?_
  refine lv_i2l (v := (xs 6).toInt64) hx hb dL_law_258 rfl ?_
  refine lv_ldc2 (v := 4294967295) hx hb hown k22 dL_law_259 ?_
  refine lv_land hx hb dL_law_262 ?_
  refine lv_lor hx hb dL_law_263 ?_
  refine p_ji (wr := [((ma 0), .inr (10, [.int 0, .ref (ma 1), .int 0, .int 0, .ref (ma 4), .ref (ma 5), .ref (ma 6), .int 0, .int 0, .ref (ma 9), .ref (ma 10), .ref (ma 11), .ref (ma 12), .int 0, .ref (ma 14), .ref (ma 15), .int 0, .int 0, .ref (ma 18), .ref (ma 19), .ref (ma 20), .ref (ma 21), .ref (ma 22), .int 0, .ref (ma 24), .int 0, .ref (ma 26), .int 0, .int 0, .int 0, .int 0, .ref (ma 31), .ref (ma 32), .ref (ma 33), .ref (ma 34), .ref (ma 35), .int 0, .int 0, .ref (ma 38), .ref (ma 39), .ref (ma 40), .long 0])), ((ma 1), .inl (k 1, 1000, .inl (mg 1)))]) (va_runV (As := [.long (((xs 1).toInt64 <<< ((32 : Int32).toInt64 &&& 63)) ||| ((xs 2).toInt64 &&& 4294967295)), .long (((xs 3).toInt64 <<< ((32 : Int32).toInt64 &&& 63)) ||| ((xs 4).toInt64 &&& 4294967295)), .long (((xs 5).toInt64 <<< ((32 : Int32).toInt64 &&& 63)) ||| ((xs 6).toInt64 &&& 4294967295))]) (rest := []) ⟨hx, hb, hml, hown, hts⟩ (c_feed l D k _ qa (((xs 1).toInt64 <<< ((32 : Int32).toInt64 &&& 63)) ||| ((xs 2).toInt64 &&& 4294967295)) (((xs 3).toInt64 <<< ((32 : Int32).toInt64 &&& 63)) ||| ((xs 4).toInt64 &&& 4294967295)) (((xs 5).toInt64 <<< ((32 : Int32).toInt64 &&& 63)) ||| ((xs 6).toInt64 &&& 4294967295))) (cwV 3 hts lg_0 rfl rfl rfl (by decide +kernel) ⟨Nat.le_of_ble_eq_true rfl, Nat.le_of_ble_eq_true rfl⟩) (pV hK hN hP hD [0, 1, 2] rfl (by decide) rfl 0 rfl rfl) rfl rfl hl.1 rfl (lv_room (Nat.le_of_ble_eq_true rfl)) dL_law_264 ⟨by decide, by decide⟩) hP hD hS hA [0, 1, 2] [3, 4] rfl rfl (by decide) (by decide) (fun rx3 ux1 H locs wx2 hP hD hS => ?_)
  have hx4 : rx3 = (nI (p_cb (((xs 1).toInt64 <<< ((32 : Int32).toInt64 &&& 63)) ||| ((xs 2).toInt64 &&& 4294967295)) + p_cb (((xs 3).toInt64 <<< ((32 : Int32).toInt64 &&& 63)) ||| ((xs 4).toInt64 &&& 4294967295)) + p_cb (((xs 5).toInt64 <<< ((32 : Int32).toInt64 &&& 63)) ||| ((xs 6).toInt64 &&& 4294967295)))) := wx2
  subst hx4
  have hP : va_P D vwCl [((ma 0), .inr (10, [.int 0, .ref (ma 1), .int 0, .int 0, .ref (ma 4), .ref (ma 5), .ref (ma 6), .int 0, .int 0, .ref (ma 9), .ref (ma 10), .ref (ma 11), .ref (ma 12), .int 0, .ref (ma 14), .ref (ma 15), .int 0, .int 0, .ref (ma 18), .ref (ma 19), .ref (ma 20), .ref (ma 21), .ref (ma 22), .int 0, .ref (ma 24), .int 0, .ref (ma 26), .int 0, .int 0, .int 0, .int 0, .ref (ma 31), .ref (ma 32), .ref (ma 33), .ref (ma 34), .ref (ma 35), .int 0, .int 0, .ref (ma 38), .ref (ma 39), .ref (ma 40), .long 0])), ((ma 1), .inl (k 1, 1000, .inl (mg 1)))] H := hP
  have hD : va_D A [((ma 0), .inr (10, [.int 0, .ref (ma 1), .int 0, .int 0, .ref (ma 4), .ref (ma 5), .ref (ma 6), .int 0, .int 0, .ref (ma 9), .ref (ma 10), .ref (ma 11), .ref (ma 12), .int 0, .ref (ma 14), .ref (ma 15), .int 0, .int 0, .ref (ma 18), .ref (ma 19), .ref (ma 20), .ref (ma 21), .ref (ma 22), .int 0, .ref (ma 24), .int 0, .ref (ma 26), .int 0, .int 0, .int 0, .int 0, .ref (ma 31), .ref (ma 32), .ref (ma 33), .ref (ma 34), .ref (ma 35), .int 0, .int 0, .ref (ma 38), .ref (ma 39), .ref (ma 40), .long 0])), ((ma 1), .inl (k 1, 1000, .inl (mg 1)))] := hD
  refine lv_aload_n hx hb dL_law_267 rfl (lv_at hl 2 rfl) ?_
  refine lv_aload_n hx hb dL_law_268 rfl (lv_at hl 4 rfl) ?_
  refine lv_iload hx hb dL_law_269 (lv_at hl 0 rfl) ?_
  refine lv_iconst (v := 1) hx hb dL_law_271 (by decide) ?_
  refine lv_iadd hx hb dL_law_272 ?_
  refine p_topI (v := 1) (by decide) ?_
  refine va_sld hx hb hX hbl hbA hS (show ¬ (_ ∨ _) by decide) dL_law_273 ?_
  refine p_topI (v := (xs 1)) rfl ?_
  refine lv_i2l (v := (xs 1).toInt64) hx hb dL_law_274 rfl ?_
  refine lv_bipush (v := 32) hx hb dL_law_275 (by decide) ?_
  refine lv_lshl (v := ((xs 1).toInt64 <<< ((32 : Int32).toInt64 &&& 63))) hx hb dL_law_277 rfl ?_
  refine lv_aload_n hx hb dL_law_278 rfl (lv_at hl 4 rfl) ?_
  refine lv_iload hx hb dL_law_279 (lv_at hl 0 rfl) ?_
  refine lv_iconst (v := 2) hx hb dL_law_281 (by decide) ?_
  refine lv_iadd hx hb dL_law_282 ?_
  refine p_topI (v := 2) (by decide) ?_
  refine va_sld hx hb hX hbl hbA hS (show ¬ (_ ∨ _) by decide) dL_law_283 ?_
  refine p_topI (v := (xs 2)) rfl ?_
  refine lv_i2l (v := (xs 2).toInt64) hx hb dL_law_284 rfl ?_
  refine lv_ldc2 (v := 4294967295) hx hb hown k22 dL_law_285 ?_
  refine lv_land hx hb dL_law_288 ?_
  refine lv_lor hx hb dL_law_289 ?_
  refine lv_aload_n hx hb dL_law_290 rfl (lv_at hl 4 rfl) ?_
  refine lv_iload hx hb dL_law_291 (lv_at hl 0 rfl) ?_
  refine lv_iconst (v := 3) hx hb dL_law_293 (by decide) ?_
  refine lv_iadd hx hb dL_law_294 ?_
  refine p_topI (v := 3) (by decide) ?_
  refine va_sld hx hb hX hbl hbA hS (show ¬ (_ ∨ _) by decide) dL_law_295 ?_
  refine p_topI (v := (xs 3)) rfl ?_
  refine lv_i2l (v := (xs 3).toInt64) hx hb dL_law_296 rfl ?_
  refine lv_bipush (v := 32) hx hb dL_law_297 (by decide) ?_
  refine lv_lshl (v := ((xs 3).toInt64 <<< ((32 : Int32).toInt64 &&& 63))) hx hb dL_law_299 rfl ?_
  refine lv_aload_n hx hb dL_law_300 rfl (lv_at hl 4 rfl) ?_
  refine lv_iload hx hb dL_law_301 (lv_at hl 0 rfl) ?_
  refine lv_iconst (v := 4) hx hb dL_law_303 (by decide) ?_
  refine lv_iadd hx hb dL_law_304 ?_
  refine p_topI (v := 4) (by decide) ?_
  refine va_sld hx hb hX hbl hbA hS (show ¬ (_ ∨ _) by decide) dL_law_305 ?_
  refine p_topI (v := (xs 4)) rfl ?_
  refine lv_i2l (v := (xs 4).toInt64) hx hb dL_law_306 rfl ?_
  refine lv_ldc2 (v := 4294967295) hx hb hown k22 dL_law_307 ?_
  refine lv_land hx hb dL_law_310 ?_
  refine lv_lor hx hb dL_law_311 ?_
  refine lv_aload_n hx hb dL_law_312 rfl (lv_at hl 4 rfl) ?_
  refine lv_iload hx hb dL_law_313 (lv_at hl 0 rfl) ?_
  refine lv_iconst (v := 5) hx hb dL_law_315 (by decide) ?_
  refine lv_iadd hx hb dL_law_316 ?_
  refine p_topI (v := 5) (by decide) ?_
  refine va_sld hx hb hX hbl hbA hS (show ¬ (_ ∨ _) by decide) dL_law_317 ?_
  refine p_topI (v := (xs 5)) rfl ?_
  refine lv_i2l (v := (xs 5).toInt64) hx hb dL_law_318 rfl ?_
  refine lv_bipush (v := 32) hx hb dL_law_319 (by decide) ?_
  refine lv_lshl (v := ((xs 5).toInt64 <<< ((32 : Int32).toInt64 &&& 63))) hx hb dL_law_321 rfl ?_
  refine lv_aload_n hx hb dL_law_322 rfl (lv_at hl 4 rfl) ?_
  refine lv_iload hx hb dL_law_323 (lv_at hl 0 rfl) ?_
  refine lv_bipush (v := 6) hx hb dL_law_325 (by decide) ?_
  refine lv_iadd hx hb dL_law_327 ?_
  refine p_topI (v := 6) (by decide) ?_
  refine va_sld hx hb hX hbl hbA hS (show ¬ (_ ∨ _) by decide) dL_law_328 ?_
  refine p_topI (v := (xs 6)) rfl ?_
  refine lv_i2l (v := (xs 6).toInt64) hx hb dL_law_329 rfl ?_
  refine lv_ldc2 (v := 4294967295) hx hb hown k22 dL_law_330 ?_
  refine lv_land hx hb dL_law_333 ?_
  refine lv_lor hx hb dL_law_334 ?_
  refine p_ji (wr := []) (va_runV (As := [.long (((xs 1).toInt64 <<< ((32 : Int32).toInt64 &&& 63)) ||| ((xs 2).toInt64 &&& 4294967295)), .long (((xs 3).toInt64 <<< ((32 : Int32).toInt64 &&& 63)) ||| ((xs 4).toInt64 &&& 4294967295)), .long (((xs 5).toInt64 <<< ((32 : Int32).toInt64 &&& 63)) ||| ((xs 6).toInt64 &&& 4294967295))]) (rest := [.int (nI (p_cb (((xs 1).toInt64 <<< ((32 : Int32).toInt64 &&& 63)) ||| ((xs 2).toInt64 &&& 4294967295)) + p_cb (((xs 3).toInt64 <<< ((32 : Int32).toInt64 &&& 63)) ||| ((xs 4).toInt64 &&& 4294967295)) + p_cb (((xs 5).toInt64 <<< ((32 : Int32).toInt64 &&& 63)) ||| ((xs 6).toInt64 &&& 4294967295))))]) ⟨hx, hb, hml, hown, hts⟩ (c_m_feed l D k _ ma mg (((xs 1).toInt64 <<< ((32 : Int32).toInt64 &&& 63)) ||| ((xs 2).toInt64 &&& 4294967295)) (((xs 3).toInt64 <<< ((32 : Int32).toInt64 &&& 63)) ||| ((xs 4).toInt64 &&& 4294967295)) (((xs 5).toInt64 <<< ((32 : Int32).toInt64 &&& 63)) ||| ((xs 6).toInt64 &&& 4294967295))) (cwV 3 hts lg_1 rfl rfl rfl (by decide +kernel) ⟨Nat.le_of_ble_eq_true rfl, Nat.le_of_ble_eq_true rfl⟩) (pV hK hN hP hD [0, 1] rfl (by decide) rfl 0 rfl rfl) rfl rfl hl.1 rfl (lv_room (Nat.le_of_ble_eq_true rfl)) dL_law_335 ⟨by decide, by decide⟩) hP hD hS hA [0, 1] [] rfl rfl (by decide) (by decide) (fun rx7 ux5 H locs wx6 hP hD hS => ?_)
  have hx8 : rx7 = (nI (p_cm (((xs 1).toInt64 <<< ((32 : Int32).toInt64 &&& 63)) ||| ((xs 2).toInt64 &&& 4294967295)) + p_cm (((xs 3).toInt64 <<< ((32 : Int32).toInt64 &&& 63)) ||| ((xs 4).toInt64 &&& 4294967295)) + p_cm (((xs 5).toInt64 <<< ((32 : Int32).toInt64 &&& 63)) ||| ((xs 6).toInt64 &&& 4294967295)))) := wx6
  subst hx8
  have hP : va_P D vwCl [] H := hP
  have hD : va_D A [] := hD
  refine lv_icmp_eq (tgt := 1487) hx hb dL_law_338 (by decide) (fun cx9 => ?_) (fun h9 => absurd (by rw [p_cbm, p_cbm, p_cbm]) h9)
  refine lv_iinc (v := 7) (lv' := [(4, .int 7), (3, .ref out), (2, .ref (ma 0)), (1, .ref (qa 0)), (0, .ref b)]) hx hb dL_law_1487 hl (k := 0) rfl (by decide) (by decide) rfl (fun ls hl => ?_)
  refine lv_goto (tgt := 23) hx hb dL_law_1490 (by decide) ?_
  refine lv_iload hx hb dL_law_23 (lv_at hl 0 rfl) ?_
  refine lv_aload_n hx hb dL_law_25 rfl (lv_at hl 4 rfl) ?_
  refine va_slen hx hb hX hbl hbA hS dL_law_26 ?_
  refine p_topI (v := 7) (by decide) ?_
  refine lv_bipush (v := 7) hx hb dL_law_27 (by decide) ?_
  refine lv_isub hx hb dL_law_29 ?_
  refine p_topI (v := 0) (by decide) ?_
  refine lv_icmp_gt (tgt := 1493) hx hb dL_law_30 (by decide) (fun cx10 => ?_) (fun h9 => absurd (by decide) h9)
  refine lv_iconst (v := 1) hx hb dL_law_1493 (by decide) ?_
  refine va_forget (fun q hq => hAf _ (hS.2.2 q hq)) ?_
  refine W.widen (k := 600002) (n := 7302232) (by decide) (by decide) ?_
  exact lw_ret hx hb hr hlocks dL_law_1494
set_option maxHeartbeats 4000000 in
set_option maxRecDepth 100000 in
theorem lc_land {p : Program} {e : Env} {s : State} {m : MethodId} {below : List Frame} {meth : Method} {c : Code} (l : Launch) {b : Nat} {xs : Nat → Int32} (C0 : lw_At p s m meth c b 7 xs) (hts : ∀ w ∈ p_tbl, w.before #[Value.ref b] s = true) {D : va_G} {k : Nat → ClassId} (hK : va_K D vwCl (pT k) s) (hN : pN s) {A : Nat → Prop} (hA : ∀ q : Nat, s.heap.size ≤ q → A q) (hAf : ∀ q : Nat, A q → s.heap.size ≤ q) (qa ma : Nat → Nat) (gs mg : Nat → Nat → Int32) (out : Nat) (hf : p_mf mg) {H : Heap} {locs : List Loc} {ls : Array Slot} (hP : va_P D vwCl (p_big k qa ma gs mg) H) (hD : va_D A (p_big k qa ma gs mg)) (hS : va_S A s.heap H locs) (hl : lv_has ls 7 [(4, .int 0), (3, .ref out), (2, .ref (ma 0)), (1, .ref (qa 0)), (0, .ref b)]) : W p l e room_1 s m #[Value.ref b] below meth c H locs 265 37830 (lw_Z below #[Value.ref b] s) (F0 m 343 ls []) := by
  obtain ⟨hx, hb, hr, hml, hown, -, hX, hbl, hlocks, hgv⟩ := C0
  obtain ⟨hl0, hl1, hl2, hs0, hs19, hs26, hn0, hm0, hm1, hm2, hm3⟩ := hf
  have hbA : ¬ A b := fun h => absurd (hAf b h) (Nat.not_le.mpr hbl)
  have hP := hP.sub (ws' := [((qa 0), .inr (9, [.ref (qa 1), .ref (qa 6), .ref (qa 9), .ref (qa 17), .ref (qa 18), .ref (qa 19), .ref (qa 20), .ref (qa 23), .ref (qa 25), .ref (qa 28), .ref (qa 29), .ref (qa 30), .ref (qa 31), .int 0, .int 0, .int 0])), ((qa 1), .inr (7, [.ref (qa 2), .ref (qa 3), .ref (qa 4), .ref (qa 5), .int 0, .int 0, .int 0, .int 0, .int 0, .int 0, .long 0, .null])), ((qa 2), .inl (k 0, 1000, .inl (fun _ => 0))), ((qa 3), .inl (k 1, 1001, .inl (fun _ => 0))), ((qa 4), .inl (k 1, 1001, .inl (fun _ => 0))), ((qa 5), .inl (k 2, 1001, .inr (.inl (fun _ => 0)))), ((qa 6), .inr (5, [.ref (qa 7), .ref (qa 8), .int 0, .int 0, .ref (qa 1), .ref (qa 31), .ref (qa 32), .int 0, .int 0, .int 0, .int 0])), ((qa 9), .inr (8, [.ref (qa 10), .ref (qa 11), .ref (qa 12), .ref (qa 13), .ref (qa 14), .ref (qa 15), .ref (qa 16), .int 0, .int (-1), .int 0, .int 0])), ((qa 10), .inl (k 1, 6, .inl (gs 0))), ((qa 11), .inl (k 1, 6, .inl (fun _ => 0))), ((qa 12), .inl (k 1, 6, .inl (fun _ => 0))), ((qa 18), .inl (k 4, 4, .inr (.inr (.inr (.inr (va_up (va_up (va_up (va_up (fun _ => none) 0 (some (qa 37))) 1 (some (qa 45))) 2 (some (qa 53))) 3 (some (qa 61)))))))), ((qa 23), .inr (3, [.ref (qa 20), .ref (qa 24), .int 0, .int 0, .int 0, .int 0])), ((qa 25), .inr (0, [.ref (qa 20), .ref (qa 26), .int 0, .int 0, .int 0, .ref (qa 9), .ref (qa 27)])), ((qa 30), .inr (2, [.ref (qa 133), .ref (qa 134), .ref (qa 135), .ref (qa 136), .ref (qa 137), .ref (qa 138), .ref (qa 139), .int 0, .int 0, .int 0, .int 0, .int 0])), ((qa 31), .inr (2, [.ref (qa 140), .ref (qa 141), .ref (qa 142), .ref (qa 32), .ref (qa 34), .ref (qa 143), .ref (qa 36), .int 0, .int 0, .int 0, .int 0, .int 0])), ((qa 32), .inr (1, [.ref (qa 33), .ref (qa 144), .int 1])), ((qa 33), .inl (k 1, 1000, .inl (gs 1))), ((qa 34), .inr (1, [.ref (qa 35), .ref (qa 145), .int 1])), ((qa 35), .inl (k 1, 1000, .inl (gs 2))), ((qa 36), .inl (k 1, 640, .inl (fun _ => 0))), ((qa 37), .inr (8, [.ref (qa 38), .ref (qa 39), .ref (qa 40), .ref (qa 41), .ref (qa 42), .ref (qa 43), .ref (qa 44), .int 0, .int (-1), .int 0, .int 0])), ((qa 45), .inr (8, [.ref (qa 46), .ref (qa 47), .ref (qa 48), .ref (qa 49), .ref (qa 50), .ref (qa 51), .ref (qa 52), .int 0, .int (-1), .int 0, .int 0])), ((qa 53), .inr (8, [.ref (qa 54), .ref (qa 55), .ref (qa 56), .ref (qa 57), .ref (qa 58), .ref (qa 59), .ref (qa 60), .int 0, .int (-1), .int 0, .int 0])), ((qa 61), .inr (8, [.ref (qa 62), .ref (qa 63), .ref (qa 64), .ref (qa 65), .ref (qa 66), .ref (qa 67), .ref (qa 68), .int 0, .int (-1), .int 0, .int 0])), ((ma 0), .inr (10, [.int 0, .ref (ma 1), .int 0, .int 0, .ref (ma 4), .ref (ma 5), .ref (ma 6), .int 0, .int 0, .ref (ma 9), .ref (ma 10), .ref (ma 11), .ref (ma 12), .int 0, .ref (ma 14), .ref (ma 15), .int 0, .int 0, .ref (ma 18), .ref (ma 19), .ref (ma 20), .ref (ma 21), .ref (ma 22), .int 0, .ref (ma 24), .int 0, .ref (ma 26), .int 0, .int 0, .int 0, .int 0, .ref (ma 31), .ref (ma 32), .ref (ma 33), .ref (ma 34), .ref (ma 35), .int 0, .int 0, .ref (ma 38), .ref (ma 39), .ref (ma 40), .long 0])), ((ma 4), .inl (k 1, 1002, .inl (mg 4))), ((ma 5), .inl (k 1, 1002, .inl (mg 5))), ((ma 10), .inl (k 1, 220, .inl (mg 10))), ((ma 14), .inl (k 2, 6, .inr (.inl (fun _ => 0)))), ((ma 15), .inl (k 2, 6, .inr (.inl (fun _ => 0)))), ((ma 18), .inl (k 1, 160, .inl (mg 18))), ((ma 22), .inl (k 1, 1320, .inl (mg 22))), ((ma 24), .inl (k 3, 4, .inl (mg 24)))]) [0, 1, 2, 3, 4, 5, 6, 9, 10, 11, 12, 18, 23, 25, 30, 31, 32, 33, 34, 35, 36, 37, 45, 53, 61, 133, 135, 136, 137, 138, 139, 140, 141, 142] rfl
  have hD := hD.sub (ws' := [((qa 0), .inr (9, [.ref (qa 1), .ref (qa 6), .ref (qa 9), .ref (qa 17), .ref (qa 18), .ref (qa 19), .ref (qa 20), .ref (qa 23), .ref (qa 25), .ref (qa 28), .ref (qa 29), .ref (qa 30), .ref (qa 31), .int 0, .int 0, .int 0])), ((qa 1), .inr (7, [.ref (qa 2), .ref (qa 3), .ref (qa 4), .ref (qa 5), .int 0, .int 0, .int 0, .int 0, .int 0, .int 0, .long 0, .null])), ((qa 2), .inl (k 0, 1000, .inl (fun _ => 0))), ((qa 3), .inl (k 1, 1001, .inl (fun _ => 0))), ((qa 4), .inl (k 1, 1001, .inl (fun _ => 0))), ((qa 5), .inl (k 2, 1001, .inr (.inl (fun _ => 0)))), ((qa 6), .inr (5, [.ref (qa 7), .ref (qa 8), .int 0, .int 0, .ref (qa 1), .ref (qa 31), .ref (qa 32), .int 0, .int 0, .int 0, .int 0])), ((qa 9), .inr (8, [.ref (qa 10), .ref (qa 11), .ref (qa 12), .ref (qa 13), .ref (qa 14), .ref (qa 15), .ref (qa 16), .int 0, .int (-1), .int 0, .int 0])), ((qa 10), .inl (k 1, 6, .inl (gs 0))), ((qa 11), .inl (k 1, 6, .inl (fun _ => 0))), ((qa 12), .inl (k 1, 6, .inl (fun _ => 0))), ((qa 18), .inl (k 4, 4, .inr (.inr (.inr (.inr (va_up (va_up (va_up (va_up (fun _ => none) 0 (some (qa 37))) 1 (some (qa 45))) 2 (some (qa 53))) 3 (some (qa 61)))))))), ((qa 23), .inr (3, [.ref (qa 20), .ref (qa 24), .int 0, .int 0, .int 0, .int 0])), ((qa 25), .inr (0, [.ref (qa 20), .ref (qa 26), .int 0, .int 0, .int 0, .ref (qa 9), .ref (qa 27)])), ((qa 30), .inr (2, [.ref (qa 133), .ref (qa 134), .ref (qa 135), .ref (qa 136), .ref (qa 137), .ref (qa 138), .ref (qa 139), .int 0, .int 0, .int 0, .int 0, .int 0])), ((qa 31), .inr (2, [.ref (qa 140), .ref (qa 141), .ref (qa 142), .ref (qa 32), .ref (qa 34), .ref (qa 143), .ref (qa 36), .int 0, .int 0, .int 0, .int 0, .int 0])), ((qa 32), .inr (1, [.ref (qa 33), .ref (qa 144), .int 1])), ((qa 33), .inl (k 1, 1000, .inl (gs 1))), ((qa 34), .inr (1, [.ref (qa 35), .ref (qa 145), .int 1])), ((qa 35), .inl (k 1, 1000, .inl (gs 2))), ((qa 36), .inl (k 1, 640, .inl (fun _ => 0))), ((qa 37), .inr (8, [.ref (qa 38), .ref (qa 39), .ref (qa 40), .ref (qa 41), .ref (qa 42), .ref (qa 43), .ref (qa 44), .int 0, .int (-1), .int 0, .int 0])), ((qa 45), .inr (8, [.ref (qa 46), .ref (qa 47), .ref (qa 48), .ref (qa 49), .ref (qa 50), .ref (qa 51), .ref (qa 52), .int 0, .int (-1), .int 0, .int 0])), ((qa 53), .inr (8, [.ref (qa 54), .ref (qa 55), .ref (qa 56), .ref (qa 57), .ref (qa 58), .ref (qa 59), .ref (qa 60), .int 0, .int (-1), .int 0, .int 0])), ((qa 61), .inr (8, [.ref (qa 62), .ref (qa 63), .ref (qa 64), .ref (qa 65), .ref (qa 66), .ref (qa 67), .ref (qa 68), .int 0, .int (-1), .int 0, .int 0])), ((ma 0), .inr (10, [.int 0, .ref (ma 1), .int 0, .int 0, .ref (ma 4), .ref (ma 5), .ref (ma 6), .int 0, .int 0, .ref (ma 9), .ref (ma 10), .ref (ma 11), .ref (ma 12), .int 0, .ref (ma 14), .ref (ma 15), .int 0, .int 0, .ref (ma 18), .ref (ma 19), .ref (ma 20), .ref (ma 21), .ref (ma 22), .int 0, .ref (ma 24), .int 0, .ref (ma 26), .int 0, .int 0, .int 0, .int 0, .ref (ma 31), .ref (ma 32), .ref (ma 33), .ref (ma 34), .ref (ma 35), .int 0, .int 0, .ref (ma 38), .ref (ma 39), .ref (ma 40), .long 0])), ((ma 4), .inl (k 1, 1002, .inl (mg 4))), ((ma 5), .inl (k 1, 1002, .inl (mg 5))), ((ma 10), .inl (k 1, 220, .inl (mg 10))), ((ma 14), .inl (k 2, 6, .inr (.inl (fun _ => 0)))), ((ma 15), .inl (k 2, 6, .inr (.inl (fun _ => 0)))), ((ma 18), .inl (k 1, 160, .inl (mg 18))), ((ma 22), .inl (k 1, 1320, .inl (mg 22))), ((ma 24), .inl (k 3, 4, .inl (mg 24)))]) [0, 1, 2, 3, 4, 5, 6, 9, 10, 11, 12, 18, 23, 25, 30, 31, 32, 33, 34, 35, 36, 37, 45, 53, 61, 133, 135, 136, 137, 138, 139, 140, 141, 142] (by decide) rfl
  refine lv_aload_n hx hb dL_law_343 rfl (lv_at hl 3 rfl) ?_
  refine p_ji (wr := [((ma 0), .inr (10, [.int 0, .ref (ma 1), .int 0, .int 0, .ref (ma 4), .ref (ma 5), .ref (ma 6), .int 0, .int 0, .ref (ma 9), .ref (ma 10), .ref (ma 11), .ref (ma 12), .int 0, .ref (ma 14), .ref (ma 15), .int 0, .int 0, .ref (ma 18), .ref (ma 19), .ref (ma 20), .ref (ma 21), .ref (ma 22), .int 0, .ref (ma 24), .int 0, .ref (ma 26), .int 0, .int 0, .int 0, .int 0, .ref (ma 31), .ref (ma 32), .ref (ma 33), .ref (ma 34), .ref (ma 35), .int 0, .int 0, .ref (ma 38), .ref (ma 39), .ref (ma 40), .long 0])), ((ma 4), .inl (k 1, 1002, .inl (mg 4))), ((ma 5), .inl (k 1, 1002, .inl (mg 5))), ((ma 10), .inl (k 1, 220, .inl (mg 10))), ((ma 14), .inl (k 2, 6, .inr (.inl (fun _ => 0)))), ((ma 15), .inl (k 2, 6, .inr (.inl (fun _ => 0)))), ((ma 18), .inl (k 1, 160, .inl (mg 18))), ((ma 22), .inl (k 1, 1320, .inl (mg 22))), ((ma 24), .inl (k 3, 4, .inl (mg 24)))]) (va_runV (As := []) (rest := []) ⟨hx, hb, hml, hown, hts⟩ (c_land l D k _ qa (gs 0) (gs 1) (gs 2)) (cwV 0 hts lg_2 rfl rfl rfl (by decide +kernel) ⟨Nat.le_of_ble_eq_true rfl, Nat.le_of_ble_eq_true rfl⟩) (pV hK hN hP hD [0, 1, 2, 3, 4, 5, 6, 15, 16, 17, 18, 19, 20, 14, 7, 8, 9, 10, 11, 21, 22, 23, 24, 12, 13] rfl (by decide) rfl 0 rfl rfl) rfl rfl hl.1 rfl (lv_room (Nat.le_of_ble_eq_true rfl)) dL_law_344 ⟨by decide, by decide⟩) hP hD hS hA [0, 1, 2, 3, 4, 5, 6, 15, 16, 17, 18, 19, 20, 14, 7, 8, 9, 10, 11, 21, 22, 23, 24, 12, 13] [25, 26, 27, 28, 29, 30, 31, 32, 33] rfl rfl (by decide) (by decide) (fun rx3 ux1 H locs wx2 hP hD hS => ?_)
  have hx4 : rx3 = 0 := wx2
  subst hx4
  have hP : va_P D vwCl [((ma 0), .inr (10, [.int 0, .ref (ma 1), .int 0, .int 0, .ref (ma 4), .ref (ma 5), .ref (ma 6), .int 0, .int 0, .ref (ma 9), .ref (ma 10), .ref (ma 11), .ref (ma 12), .int 0, .ref (ma 14), .ref (ma 15), .int 0, .int 0, .ref (ma 18), .ref (ma 19), .ref (ma 20), .ref (ma 21), .ref (ma 22), .int 0, .ref (ma 24), .int 0, .ref (ma 26), .int 0, .int 0, .int 0, .int 0, .ref (ma 31), .ref (ma 32), .ref (ma 33), .ref (ma 34), .ref (ma 35), .int 0, .int 0, .ref (ma 38), .ref (ma 39), .ref (ma 40), .long 0])), ((ma 4), .inl (k 1, 1002, .inl (mg 4))), ((ma 5), .inl (k 1, 1002, .inl (mg 5))), ((ma 10), .inl (k 1, 220, .inl (mg 10))), ((ma 14), .inl (k 2, 6, .inr (.inl (fun _ => 0)))), ((ma 15), .inl (k 2, 6, .inr (.inl (fun _ => 0)))), ((ma 18), .inl (k 1, 160, .inl (mg 18))), ((ma 22), .inl (k 1, 1320, .inl (mg 22))), ((ma 24), .inl (k 3, 4, .inl (mg 24)))] H := hP
  have hD : va_D A [((ma 0), .inr (10, [.int 0, .ref (ma 1), .int 0, .int 0, .ref (ma 4), .ref (ma 5), .ref (ma 6), .int 0, .int 0, .ref (ma 9), .ref (ma 10), .ref (ma 11), .ref (ma 12), .int 0, .ref (ma 14), .ref (ma 15), .int 0, .int 0, .ref (ma 18), .ref (ma 19), .ref (ma 20), .ref (ma 21), .ref (ma 22), .int 0, .ref (ma 24), .int 0, .ref (ma 26), .int 0, .int 0, .int 0, .int 0, .ref (ma 31), .ref (ma 32), .ref (ma 33), .ref (ma 34), .ref (ma 35), .int 0, .int 0, .ref (ma 38), .ref (ma 39), .ref (ma 40), .long 0])), ((ma 4), .inl (k 1, 1002, .inl (mg 4))), ((ma 5), .inl (k 1, 1002, .inl (mg 5))), ((ma 10), .inl (k 1, 220, .inl (mg 10))), ((ma 14), .inl (k 2, 6, .inr (.inl (fun _ => 0)))), ((ma 15), .inl (k 2, 6, .inr (.inl (fun _ => 0)))), ((ma 18), .inl (k 1, 160, .inl (mg 18))), ((ma 22), .inl (k 1, 1320, .inl (mg 22))), ((ma 24), .inl (k 3, 4, .inl (mg 24)))] := hD
  refine lv_aload_n hx hb dL_law_347 rfl (lv_at hl 2 rfl) ?_
  refine p_ji (wr := []) (va_runV (As := []) (rest := [.int 0]) ⟨hx, hb, hml, hown, hts⟩ (c_m_land l D k _ ma mg) (cwV 0 hts lg_3 rfl rfl rfl (by decide +kernel) ⟨Nat.le_of_ble_eq_true rfl, Nat.le_of_ble_eq_true rfl⟩) (pV hK hN hP hD [0, 1, 2, 3, 7, 6, 8, 4, 5] rfl (by decide) rfl 0 rfl rfl) rfl rfl hl.1 rfl (lv_room (Nat.le_of_ble_eq_true rfl)) dL_law_348 ⟨by decide, by decide⟩) hP hD hS hA [0, 1, 2, 3, 7, 6, 8, 4, 5] [] rfl rfl (by decide) (by decide) (fun rx7 ux5 H locs wx6 hP hD hS => ?_)
  have hx8 : rx7 = 0 := wx6
  subst hx8
  have hP : va_P D vwCl [] H := hP
  have hD : va_D A [] := hD
  refine lv_icmp_eq (tgt := 1487) hx hb dL_law_351 (by decide) (fun cx9 => ?_) (fun h9 => absurd (by decide) h9)
  refine lv_iinc (v := 7) (lv' := [(4, .int 7), (3, .ref out), (2, .ref (ma 0)), (1, .ref (qa 0)), (0, .ref b)]) hx hb dL_law_1487 hl (k := 0) rfl (by decide) (by decide) rfl (fun ls hl => ?_)
  refine lv_goto (tgt := 23) hx hb dL_law_1490 (by decide) ?_
  refine lv_iload hx hb dL_law_23 (lv_at hl 0 rfl) ?_
  refine lv_aload_n hx hb dL_law_25 rfl (lv_at hl 4 rfl) ?_
  refine va_slen hx hb hX hbl hbA hS dL_law_26 ?_
  refine p_topI (v := 7) (by decide) ?_
  refine lv_bipush (v := 7) hx hb dL_law_27 (by decide) ?_
  refine lv_isub hx hb dL_law_29 ?_
  refine p_topI (v := 0) (by decide) ?_
  refine lv_icmp_gt (tgt := 1493) hx hb dL_law_30 (by decide) (fun cx10 => ?_) (fun h9 => absurd (by decide) h9)
  refine lv_iconst (v := 1) hx hb dL_law_1493 (by decide) ?_
  refine va_forget (fun q hq => hAf _ (hS.2.2 q hq)) ?_
  refine W.widen (k := 600002) (n := 7302232) (by decide) (by decide) ?_
  exact lw_ret hx hb hr hlocks dL_law_1494
set_option maxHeartbeats 4000000 in
set_option maxRecDepth 100000 in
theorem lc_vows {p : Program} {e : Env} {s : State} {m : MethodId} {below : List Frame} {meth : Method} {c : Code} (l : Launch) {b : Nat} {xs : Nat → Int32} (C0 : lw_At p s m meth c b 7 xs) (hts : ∀ w ∈ p_tbl, w.before #[Value.ref b] s = true) {D : va_G} {k : Nat → ClassId} (hK : va_K D vwCl (pT k) s) (hN : pN s) {A : Nat → Prop} (hA : ∀ q : Nat, s.heap.size ≤ q → A q) (hAf : ∀ q : Nat, A q → s.heap.size ≤ q) (qa ma : Nat → Nat) (gs mg : Nat → Nat → Int32) (out : Nat) (hf : p_mf mg) {H : Heap} {locs : List Loc} {ls : Array Slot} (hP : va_P D vwCl (p_big k qa ma gs mg) H) (hD : va_D A (p_big k qa ma gs mg)) (hS : va_S A s.heap H locs) (hl : lv_has ls 7 [(4, .int 0), (3, .ref out), (2, .ref (ma 0)), (1, .ref (qa 0)), (0, .ref b)]) : W p l e room_1 s m #[Value.ref b] below meth c H locs 265 37830 (lw_Z below #[Value.ref b] s) (F0 m 356 ls []) := by
  obtain ⟨hx, hb, hr, hml, hown, -, hX, hbl, hlocks, hgv⟩ := C0
  obtain ⟨hl0, hl1, hl2, hs0, hs19, hs26, hn0, hm0, hm1, hm2, hm3⟩ := hf
  have hbA : ¬ A b := fun h => absurd (hAf b h) (Nat.not_le.mpr hbl)
  have hP := hP.sub (ws' := [((qa 0), .inr (9, [.ref (qa 1), .ref (qa 6), .ref (qa 9), .ref (qa 17), .ref (qa 18), .ref (qa 19), .ref (qa 20), .ref (qa 23), .ref (qa 25), .ref (qa 28), .ref (qa 29), .ref (qa 30), .ref (qa 31), .int 0, .int 0, .int 0])), ((qa 1), .inr (7, [.ref (qa 2), .ref (qa 3), .ref (qa 4), .ref (qa 5), .int 0, .int 0, .int 0, .int 0, .int 0, .int 0, .long 0, .null])), ((qa 2), .inl (k 0, 1000, .inl (fun _ => 0))), ((qa 3), .inl (k 1, 1001, .inl (fun _ => 0))), ((qa 4), .inl (k 1, 1001, .inl (fun _ => 0))), ((qa 5), .inl (k 2, 1001, .inr (.inl (fun _ => 0)))), ((qa 6), .inr (5, [.ref (qa 7), .ref (qa 8), .int 0, .int 0, .ref (qa 1), .ref (qa 31), .ref (qa 32), .int 0, .int 0, .int 0, .int 0])), ((qa 7), .inl (k 1, 24, .inl (fun _ => 0))), ((qa 19), .inl (k 1, 24, .inl (fun _ => 0))), ((qa 30), .inr (2, [.ref (qa 133), .ref (qa 134), .ref (qa 135), .ref (qa 136), .ref (qa 137), .ref (qa 138), .ref (qa 139), .int 0, .int 0, .int 0, .int 0, .int 0])), ((ma 0), .inr (10, [.int 0, .ref (ma 1), .int 0, .int 0, .ref (ma 4), .ref (ma 5), .ref (ma 6), .int 0, .int 0, .ref (ma 9), .ref (ma 10), .ref (ma 11), .ref (ma 12), .int 0, .ref (ma 14), .ref (ma 15), .int 0, .int 0, .ref (ma 18), .ref (ma 19), .ref (ma 20), .ref (ma 21), .ref (ma 22), .int 0, .ref (ma 24), .int 0, .ref (ma 26), .int 0, .int 0, .int 0, .int 0, .ref (ma 31), .ref (ma 32), .ref (ma 33), .ref (ma 34), .ref (ma 35), .int 0, .int 0, .ref (ma 38), .ref (ma 39), .ref (ma 40), .long 0])), ((ma 4), .inl (k 1, 1002, .inl (mg 4))), ((ma 5), .inl (k 1, 1002, .inl (mg 5))), ((ma 18), .inl (k 1, 160, .inl (mg 18)))]) [0, 1, 2, 3, 4, 5, 6, 7, 19, 30, 133, 135, 136, 140] rfl
  have hD := hD.sub (ws' := [((qa 0), .inr (9, [.ref (qa 1), .ref (qa 6), .ref (qa 9), .ref (qa 17), .ref (qa 18), .ref (qa 19), .ref (qa 20), .ref (qa 23), .ref (qa 25), .ref (qa 28), .ref (qa 29), .ref (qa 30), .ref (qa 31), .int 0, .int 0, .int 0])), ((qa 1), .inr (7, [.ref (qa 2), .ref (qa 3), .ref (qa 4), .ref (qa 5), .int 0, .int 0, .int 0, .int 0, .int 0, .int 0, .long 0, .null])), ((qa 2), .inl (k 0, 1000, .inl (fun _ => 0))), ((qa 3), .inl (k 1, 1001, .inl (fun _ => 0))), ((qa 4), .inl (k 1, 1001, .inl (fun _ => 0))), ((qa 5), .inl (k 2, 1001, .inr (.inl (fun _ => 0)))), ((qa 6), .inr (5, [.ref (qa 7), .ref (qa 8), .int 0, .int 0, .ref (qa 1), .ref (qa 31), .ref (qa 32), .int 0, .int 0, .int 0, .int 0])), ((qa 7), .inl (k 1, 24, .inl (fun _ => 0))), ((qa 19), .inl (k 1, 24, .inl (fun _ => 0))), ((qa 30), .inr (2, [.ref (qa 133), .ref (qa 134), .ref (qa 135), .ref (qa 136), .ref (qa 137), .ref (qa 138), .ref (qa 139), .int 0, .int 0, .int 0, .int 0, .int 0])), ((ma 0), .inr (10, [.int 0, .ref (ma 1), .int 0, .int 0, .ref (ma 4), .ref (ma 5), .ref (ma 6), .int 0, .int 0, .ref (ma 9), .ref (ma 10), .ref (ma 11), .ref (ma 12), .int 0, .ref (ma 14), .ref (ma 15), .int 0, .int 0, .ref (ma 18), .ref (ma 19), .ref (ma 20), .ref (ma 21), .ref (ma 22), .int 0, .ref (ma 24), .int 0, .ref (ma 26), .int 0, .int 0, .int 0, .int 0, .ref (ma 31), .ref (ma 32), .ref (ma 33), .ref (ma 34), .ref (ma 35), .int 0, .int 0, .ref (ma 38), .ref (ma 39), .ref (ma 40), .long 0])), ((ma 4), .inl (k 1, 1002, .inl (mg 4))), ((ma 5), .inl (k 1, 1002, .inl (mg 5))), ((ma 18), .inl (k 1, 160, .inl (mg 18)))]) [0, 1, 2, 3, 4, 5, 6, 7, 19, 30, 133, 135, 136, 140] (by decide) rfl
  refine lv_aload_n hx hb dL_law_356 rfl (lv_at hl 3 rfl) ?_
  refine p_ji (wr := [((ma 0), .inr (10, [.int 0, .ref (ma 1), .int 0, .int 0, .ref (ma 4), .ref (ma 5), .ref (ma 6), .int 0, .int 0, .ref (ma 9), .ref (ma 10), .ref (ma 11), .ref (ma 12), .int 0, .ref (ma 14), .ref (ma 15), .int 0, .int 0, .ref (ma 18), .ref (ma 19), .ref (ma 20), .ref (ma 21), .ref (ma 22), .int 0, .ref (ma 24), .int 0, .ref (ma 26), .int 0, .int 0, .int 0, .int 0, .ref (ma 31), .ref (ma 32), .ref (ma 33), .ref (ma 34), .ref (ma 35), .int 0, .int 0, .ref (ma 38), .ref (ma 39), .ref (ma 40), .long 0])), ((ma 4), .inl (k 1, 1002, .inl (mg 4))), ((ma 5), .inl (k 1, 1002, .inl (mg 5))), ((ma 18), .inl (k 1, 160, .inl (mg 18)))]) (va_runV (As := []) (rest := []) ⟨hx, hb, hml, hown, hts⟩ (c_vows l D k _ qa) (cwV 0 hts lg_4 rfl rfl rfl (by decide +kernel) ⟨Nat.le_of_ble_eq_true rfl, Nat.le_of_ble_eq_true rfl⟩) (pV hK hN hP hD [0, 1, 2, 3, 4, 5, 6, 7, 9, 8] rfl (by decide) rfl 0 rfl rfl) rfl rfl hl.1 rfl (lv_room (Nat.le_of_ble_eq_true rfl)) dL_law_357 ⟨by decide, by decide⟩) hP hD hS hA [0, 1, 2, 3, 4, 5, 6, 7, 9, 8] [10, 11, 12, 13] rfl rfl (by decide) (by decide) (fun rx3 ux1 H locs wx2 hP hD hS => ?_)
  have hx4 : rx3 = 0 := wx2
  subst hx4
  have hP : va_P D vwCl [((ma 0), .inr (10, [.int 0, .ref (ma 1), .int 0, .int 0, .ref (ma 4), .ref (ma 5), .ref (ma 6), .int 0, .int 0, .ref (ma 9), .ref (ma 10), .ref (ma 11), .ref (ma 12), .int 0, .ref (ma 14), .ref (ma 15), .int 0, .int 0, .ref (ma 18), .ref (ma 19), .ref (ma 20), .ref (ma 21), .ref (ma 22), .int 0, .ref (ma 24), .int 0, .ref (ma 26), .int 0, .int 0, .int 0, .int 0, .ref (ma 31), .ref (ma 32), .ref (ma 33), .ref (ma 34), .ref (ma 35), .int 0, .int 0, .ref (ma 38), .ref (ma 39), .ref (ma 40), .long 0])), ((ma 4), .inl (k 1, 1002, .inl (mg 4))), ((ma 5), .inl (k 1, 1002, .inl (mg 5))), ((ma 18), .inl (k 1, 160, .inl (mg 18)))] H := hP
  have hD : va_D A [((ma 0), .inr (10, [.int 0, .ref (ma 1), .int 0, .int 0, .ref (ma 4), .ref (ma 5), .ref (ma 6), .int 0, .int 0, .ref (ma 9), .ref (ma 10), .ref (ma 11), .ref (ma 12), .int 0, .ref (ma 14), .ref (ma 15), .int 0, .int 0, .ref (ma 18), .ref (ma 19), .ref (ma 20), .ref (ma 21), .ref (ma 22), .int 0, .ref (ma 24), .int 0, .ref (ma 26), .int 0, .int 0, .int 0, .int 0, .ref (ma 31), .ref (ma 32), .ref (ma 33), .ref (ma 34), .ref (ma 35), .int 0, .int 0, .ref (ma 38), .ref (ma 39), .ref (ma 40), .long 0])), ((ma 4), .inl (k 1, 1002, .inl (mg 4))), ((ma 5), .inl (k 1, 1002, .inl (mg 5))), ((ma 18), .inl (k 1, 160, .inl (mg 18)))] := hD
  refine lv_aload_n hx hb dL_law_360 rfl (lv_at hl 2 rfl) ?_
  refine p_ji (wr := []) (va_runV (As := []) (rest := [.int 0]) ⟨hx, hb, hml, hown, hts⟩ (c_m_vows l D k _ ma mg) (cwV 0 hts lg_5 rfl rfl rfl (by decide +kernel) ⟨Nat.le_of_ble_eq_true rfl, Nat.le_of_ble_eq_true rfl⟩) (pV hK hN hP hD [0, 1, 2, 3] rfl (by decide) rfl 0 rfl rfl) rfl rfl hl.1 rfl (lv_room (Nat.le_of_ble_eq_true rfl)) dL_law_361 ⟨by decide, by decide⟩) hP hD hS hA [0, 1, 2, 3] [] rfl rfl (by decide) (by decide) (fun rx7 ux5 H locs wx6 hP hD hS => ?_)
  have hx8 : rx7 = 0 := wx6
  subst hx8
  have hP : va_P D vwCl [] H := hP
  have hD : va_D A [] := hD
  refine lv_icmp_eq (tgt := 1487) hx hb dL_law_364 (by decide) (fun cx9 => ?_) (fun h9 => absurd (by decide) h9)
  refine lv_iinc (v := 7) (lv' := [(4, .int 7), (3, .ref out), (2, .ref (ma 0)), (1, .ref (qa 0)), (0, .ref b)]) hx hb dL_law_1487 hl (k := 0) rfl (by decide) (by decide) rfl (fun ls hl => ?_)
  refine lv_goto (tgt := 23) hx hb dL_law_1490 (by decide) ?_
  refine lv_iload hx hb dL_law_23 (lv_at hl 0 rfl) ?_
  refine lv_aload_n hx hb dL_law_25 rfl (lv_at hl 4 rfl) ?_
  refine va_slen hx hb hX hbl hbA hS dL_law_26 ?_
  refine p_topI (v := 7) (by decide) ?_
  refine lv_bipush (v := 7) hx hb dL_law_27 (by decide) ?_
  refine lv_isub hx hb dL_law_29 ?_
  refine p_topI (v := 0) (by decide) ?_
  refine lv_icmp_gt (tgt := 1493) hx hb dL_law_30 (by decide) (fun cx10 => ?_) (fun h9 => absurd (by decide) h9)
  refine lv_iconst (v := 1) hx hb dL_law_1493 (by decide) ?_
  refine va_forget (fun q hq => hAf _ (hS.2.2 q hq)) ?_
  refine W.widen (k := 600002) (n := 7302232) (by decide) (by decide) ?_
  exact lw_ret hx hb hr hlocks dL_law_1494
set_option maxHeartbeats 4000000 in
set_option maxRecDepth 100000 in
theorem lc_will {p : Program} {e : Env} {s : State} {m : MethodId} {below : List Frame} {meth : Method} {c : Code} (l : Launch) {b : Nat} {xs : Nat → Int32} (C0 : lw_At p s m meth c b 7 xs) (hts : ∀ w ∈ p_tbl, w.before #[Value.ref b] s = true) {D : va_G} {k : Nat → ClassId} (hK : va_K D vwCl (pT k) s) (hN : pN s) {A : Nat → Prop} (hA : ∀ q : Nat, s.heap.size ≤ q → A q) (hAf : ∀ q : Nat, A q → s.heap.size ≤ q) (qa ma : Nat → Nat) (gs mg : Nat → Nat → Int32) (out : Nat) (hf : p_mf mg) {H : Heap} {locs : List Loc} {ls : Array Slot} (hP : va_P D vwCl (p_big k qa ma gs mg) H) (hD : va_D A (p_big k qa ma gs mg)) (hS : va_S A s.heap H locs) (hl : lv_has ls 7 [(4, .int 0), (3, .ref out), (2, .ref (ma 0)), (1, .ref (qa 0)), (0, .ref b)]) : W p l e room_1 s m #[Value.ref b] below meth c H locs 265 37830 (lw_Z below #[Value.ref b] s) (F0 m 369 ls []) := by
  obtain ⟨hx, hb, hr, hml, hown, -, hX, hbl, hlocks, hgv⟩ := C0
  obtain ⟨hl0, hl1, hl2, hs0, hs19, hs26, hn0, hm0, hm1, hm2, hm3⟩ := hf
  have hbA : ¬ A b := fun h => absurd (hAf b h) (Nat.not_le.mpr hbl)
  have hP := hP.sub (ws' := [((qa 0), .inr (9, [.ref (qa 1), .ref (qa 6), .ref (qa 9), .ref (qa 17), .ref (qa 18), .ref (qa 19), .ref (qa 20), .ref (qa 23), .ref (qa 25), .ref (qa 28), .ref (qa 29), .ref (qa 30), .ref (qa 31), .int 0, .int 0, .int 0])), ((qa 1), .inr (7, [.ref (qa 2), .ref (qa 3), .ref (qa 4), .ref (qa 5), .int 0, .int 0, .int 0, .int 0, .int 0, .int 0, .long 0, .null])), ((qa 2), .inl (k 0, 1000, .inl (fun _ => 0))), ((qa 3), .inl (k 1, 1001, .inl (fun _ => 0))), ((qa 4), .inl (k 1, 1001, .inl (fun _ => 0))), ((qa 5), .inl (k 2, 1001, .inr (.inl (fun _ => 0)))), ((qa 6), .inr (5, [.ref (qa 7), .ref (qa 8), .int 0, .int 0, .ref (qa 1), .ref (qa 31), .ref (qa 32), .int 0, .int 0, .int 0, .int 0])), ((qa 8), .inl (k 1, 6, .inl (fun _ => 0))), ((qa 9), .inr (8, [.ref (qa 10), .ref (qa 11), .ref (qa 12), .ref (qa 13), .ref (qa 14), .ref (qa 15), .ref (qa 16), .int 0, .int (-1), .int 0, .int 0])), ((qa 13), .inl (k 1, 6, .inl (fun _ => 0))), ((ma 0), .inr (10, [.int 0, .ref (ma 1), .int 0, .int 0, .ref (ma 4), .ref (ma 5), .ref (ma 6), .int 0, .int 0, .ref (ma 9), .ref (ma 10), .ref (ma 11), .ref (ma 12), .int 0, .ref (ma 14), .ref (ma 15), .int 0, .int 0, .ref (ma 18), .ref (ma 19), .ref (ma 20), .ref (ma 21), .ref (ma 22), .int 0, .ref (ma 24), .int 0, .ref (ma 26), .int 0, .int 0, .int 0, .int 0, .ref (ma 31), .ref (ma 32), .ref (ma 33), .ref (ma 34), .ref (ma 35), .int 0, .int 0, .ref (ma 38), .ref (ma 39), .ref (ma 40), .long 0])), ((ma 4), .inl (k 1, 1002, .inl (mg 4))), ((ma 5), .inl (k 1, 1002, .inl (mg 5))), ((ma 22), .inl (k 1, 1320, .inl (mg 22)))]) [0, 1, 2, 3, 4, 5, 6, 8, 9, 13, 133, 135, 136, 141] rfl
  have hD := hD.sub (ws' := [((qa 0), .inr (9, [.ref (qa 1), .ref (qa 6), .ref (qa 9), .ref (qa 17), .ref (qa 18), .ref (qa 19), .ref (qa 20), .ref (qa 23), .ref (qa 25), .ref (qa 28), .ref (qa 29), .ref (qa 30), .ref (qa 31), .int 0, .int 0, .int 0])), ((qa 1), .inr (7, [.ref (qa 2), .ref (qa 3), .ref (qa 4), .ref (qa 5), .int 0, .int 0, .int 0, .int 0, .int 0, .int 0, .long 0, .null])), ((qa 2), .inl (k 0, 1000, .inl (fun _ => 0))), ((qa 3), .inl (k 1, 1001, .inl (fun _ => 0))), ((qa 4), .inl (k 1, 1001, .inl (fun _ => 0))), ((qa 5), .inl (k 2, 1001, .inr (.inl (fun _ => 0)))), ((qa 6), .inr (5, [.ref (qa 7), .ref (qa 8), .int 0, .int 0, .ref (qa 1), .ref (qa 31), .ref (qa 32), .int 0, .int 0, .int 0, .int 0])), ((qa 8), .inl (k 1, 6, .inl (fun _ => 0))), ((qa 9), .inr (8, [.ref (qa 10), .ref (qa 11), .ref (qa 12), .ref (qa 13), .ref (qa 14), .ref (qa 15), .ref (qa 16), .int 0, .int (-1), .int 0, .int 0])), ((qa 13), .inl (k 1, 6, .inl (fun _ => 0))), ((ma 0), .inr (10, [.int 0, .ref (ma 1), .int 0, .int 0, .ref (ma 4), .ref (ma 5), .ref (ma 6), .int 0, .int 0, .ref (ma 9), .ref (ma 10), .ref (ma 11), .ref (ma 12), .int 0, .ref (ma 14), .ref (ma 15), .int 0, .int 0, .ref (ma 18), .ref (ma 19), .ref (ma 20), .ref (ma 21), .ref (ma 22), .int 0, .ref (ma 24), .int 0, .ref (ma 26), .int 0, .int 0, .int 0, .int 0, .ref (ma 31), .ref (ma 32), .ref (ma 33), .ref (ma 34), .ref (ma 35), .int 0, .int 0, .ref (ma 38), .ref (ma 39), .ref (ma 40), .long 0])), ((ma 4), .inl (k 1, 1002, .inl (mg 4))), ((ma 5), .inl (k 1, 1002, .inl (mg 5))), ((ma 22), .inl (k 1, 1320, .inl (mg 22)))]) [0, 1, 2, 3, 4, 5, 6, 8, 9, 13, 133, 135, 136, 141] (by decide) rfl
  refine lv_aload_n hx hb dL_law_369 rfl (lv_at hl 3 rfl) ?_
  refine p_ji (wr := [((ma 0), .inr (10, [.int 0, .ref (ma 1), .int 0, .int 0, .ref (ma 4), .ref (ma 5), .ref (ma 6), .int 0, .int 0, .ref (ma 9), .ref (ma 10), .ref (ma 11), .ref (ma 12), .int 0, .ref (ma 14), .ref (ma 15), .int 0, .int 0, .ref (ma 18), .ref (ma 19), .ref (ma 20), .ref (ma 21), .ref (ma 22), .int 0, .ref (ma 24), .int 0, .ref (ma 26), .int 0, .int 0, .int 0, .int 0, .ref (ma 31), .ref (ma 32), .ref (ma 33), .ref (ma 34), .ref (ma 35), .int 0, .int 0, .ref (ma 38), .ref (ma 39), .ref (ma 40), .long 0])), ((ma 4), .inl (k 1, 1002, .inl (mg 4))), ((ma 5), .inl (k 1, 1002, .inl (mg 5))), ((ma 22), .inl (k 1, 1320, .inl (mg 22)))]) (va_runV (As := []) (rest := []) ⟨hx, hb, hml, hown, hts⟩ (c_will l D k _ qa) (cwV 0 hts lg_6 rfl rfl rfl (by decide +kernel) ⟨Nat.le_of_ble_eq_true rfl, Nat.le_of_ble_eq_true rfl⟩) (pV hK hN hP hD [0, 1, 2, 3, 4, 5, 6, 7, 8, 9] rfl (by decide) rfl 0 rfl rfl) rfl rfl hl.1 rfl (lv_room (Nat.le_of_ble_eq_true rfl)) dL_law_370 ⟨by decide, by decide⟩) hP hD hS hA [0, 1, 2, 3, 4, 5, 6, 7, 8, 9] [10, 11, 12, 13] rfl rfl (by decide) (by decide) (fun rx3 ux1 H locs wx2 hP hD hS => ?_)
  have hx4 : rx3 = 0 := wx2
  subst hx4
  have hP : va_P D vwCl [((ma 0), .inr (10, [.int 0, .ref (ma 1), .int 0, .int 0, .ref (ma 4), .ref (ma 5), .ref (ma 6), .int 0, .int 0, .ref (ma 9), .ref (ma 10), .ref (ma 11), .ref (ma 12), .int 0, .ref (ma 14), .ref (ma 15), .int 0, .int 0, .ref (ma 18), .ref (ma 19), .ref (ma 20), .ref (ma 21), .ref (ma 22), .int 0, .ref (ma 24), .int 0, .ref (ma 26), .int 0, .int 0, .int 0, .int 0, .ref (ma 31), .ref (ma 32), .ref (ma 33), .ref (ma 34), .ref (ma 35), .int 0, .int 0, .ref (ma 38), .ref (ma 39), .ref (ma 40), .long 0])), ((ma 4), .inl (k 1, 1002, .inl (mg 4))), ((ma 5), .inl (k 1, 1002, .inl (mg 5))), ((ma 22), .inl (k 1, 1320, .inl (mg 22)))] H := hP
  have hD : va_D A [((ma 0), .inr (10, [.int 0, .ref (ma 1), .int 0, .int 0, .ref (ma 4), .ref (ma 5), .ref (ma 6), .int 0, .int 0, .ref (ma 9), .ref (ma 10), .ref (ma 11), .ref (ma 12), .int 0, .ref (ma 14), .ref (ma 15), .int 0, .int 0, .ref (ma 18), .ref (ma 19), .ref (ma 20), .ref (ma 21), .ref (ma 22), .int 0, .ref (ma 24), .int 0, .ref (ma 26), .int 0, .int 0, .int 0, .int 0, .ref (ma 31), .ref (ma 32), .ref (ma 33), .ref (ma 34), .ref (ma 35), .int 0, .int 0, .ref (ma 38), .ref (ma 39), .ref (ma 40), .long 0])), ((ma 4), .inl (k 1, 1002, .inl (mg 4))), ((ma 5), .inl (k 1, 1002, .inl (mg 5))), ((ma 22), .inl (k 1, 1320, .inl (mg 22)))] := hD
  refine lv_aload_n hx hb dL_law_373 rfl (lv_at hl 2 rfl) ?_
  refine p_ji (wr := []) (va_runV (As := []) (rest := [.int 0]) ⟨hx, hb, hml, hown, hts⟩ (c_m_will l D k _ ma mg) (cwV 0 hts lg_7 rfl rfl rfl (by decide +kernel) ⟨Nat.le_of_ble_eq_true rfl, Nat.le_of_ble_eq_true rfl⟩) (pV hK hN hP hD [0, 1, 2, 3] rfl (by decide) rfl 0 rfl rfl) rfl rfl hl.1 rfl (lv_room (Nat.le_of_ble_eq_true rfl)) dL_law_374 ⟨by decide, by decide⟩) hP hD hS hA [0, 1, 2, 3] [] rfl rfl (by decide) (by decide) (fun rx7 ux5 H locs wx6 hP hD hS => ?_)
  have hx8 : rx7 = 0 := wx6
  subst hx8
  have hP : va_P D vwCl [] H := hP
  have hD : va_D A [] := hD
  refine lv_icmp_eq (tgt := 1487) hx hb dL_law_377 (by decide) (fun cx9 => ?_) (fun h9 => absurd (by decide) h9)
  refine lv_iinc (v := 7) (lv' := [(4, .int 7), (3, .ref out), (2, .ref (ma 0)), (1, .ref (qa 0)), (0, .ref b)]) hx hb dL_law_1487 hl (k := 0) rfl (by decide) (by decide) rfl (fun ls hl => ?_)
  refine lv_goto (tgt := 23) hx hb dL_law_1490 (by decide) ?_
  refine lv_iload hx hb dL_law_23 (lv_at hl 0 rfl) ?_
  refine lv_aload_n hx hb dL_law_25 rfl (lv_at hl 4 rfl) ?_
  refine va_slen hx hb hX hbl hbA hS dL_law_26 ?_
  refine p_topI (v := 7) (by decide) ?_
  refine lv_bipush (v := 7) hx hb dL_law_27 (by decide) ?_
  refine lv_isub hx hb dL_law_29 ?_
  refine p_topI (v := 0) (by decide) ?_
  refine lv_icmp_gt (tgt := 1493) hx hb dL_law_30 (by decide) (fun cx10 => ?_) (fun h9 => absurd (by decide) h9)
  refine lv_iconst (v := 1) hx hb dL_law_1493 (by decide) ?_
  refine va_forget (fun q hq => hAf _ (hS.2.2 q hq)) ?_
  refine W.widen (k := 600002) (n := 7302232) (by decide) (by decide) ?_
  exact lw_ret hx hb hr hlocks dL_law_1494
set_option maxHeartbeats 4000000 in
set_option maxRecDepth 100000 in
theorem lc_river {p : Program} {e : Env} {s : State} {m : MethodId} {below : List Frame} {meth : Method} {c : Code} (l : Launch) {b : Nat} {xs : Nat → Int32} (C0 : lw_At p s m meth c b 7 xs) (hts : ∀ w ∈ p_tbl, w.before #[Value.ref b] s = true) {D : va_G} {k : Nat → ClassId} (hK : va_K D vwCl (pT k) s) (hN : pN s) {A : Nat → Prop} (hA : ∀ q : Nat, s.heap.size ≤ q → A q) (hAf : ∀ q : Nat, A q → s.heap.size ≤ q) (qa ma : Nat → Nat) (gs mg : Nat → Nat → Int32) (out : Nat) (hf : p_mf mg) (hst : l.stackTraces = false) (sa : Nat) (hXX : pX 193 "no such river, or nothing such of it" sa A s) {H : Heap} {locs : List Loc} {ls : Array Slot} (hP : va_P D vwCl (p_big k qa ma gs mg) H) (hD : va_D A (p_big k qa ma gs mg)) (hS : va_S A s.heap H locs) (hl : lv_has ls 7 [(4, .int 0), (3, .ref out), (2, .ref (ma 0)), (1, .ref (qa 0)), (0, .ref b)]) : W p l e room_1 s m #[Value.ref b] below meth c H locs 265 37830 (lw_Z below #[Value.ref b] s) (F0 m 382 ls []) := by
  obtain ⟨hx, hb, hr, hml, hown, -, hX, hbl, hlocks, hgv⟩ := C0
  obtain ⟨hl0, hl1, hl2, hs0, hs19, hs26, hn0, hm0, hm1, hm2, hm3⟩ := hf
  have hbA : ¬ A b := fun h => absurd (hAf b h) (Nat.not_le.mpr hbl)
  have hP := hP.sub (ws' := [((qa 0), .inr (9, [.ref (qa 1), .ref (qa 6), .ref (qa 9), .ref (qa 17), .ref (qa 18), .ref (qa 19), .ref (qa 20), .ref (qa 23), .ref (qa 25), .ref (qa 28), .ref (qa 29), .ref (qa 30), .ref (qa 31), .int 0, .int 0, .int 0])), ((qa 30), .inr (2, [.ref (qa 133), .ref (qa 134), .ref (qa 135), .ref (qa 136), .ref (qa 137), .ref (qa 138), .ref (qa 139), .int 0, .int 0, .int 0, .int 0, .int 0])), ((ma 0), .inr (10, [.int 0, .ref (ma 1), .int 0, .int 0, .ref (ma 4), .ref (ma 5), .ref (ma 6), .int 0, .int 0, .ref (ma 9), .ref (ma 10), .ref (ma 11), .ref (ma 12), .int 0, .ref (ma 14), .ref (ma 15), .int 0, .int 0, .ref (ma 18), .ref (ma 19), .ref (ma 20), .ref (ma 21), .ref (ma 22), .int 0, .ref (ma 24), .int 0, .ref (ma 26), .int 0, .int 0, .int 0, .int 0, .ref (ma 31), .ref (ma 32), .ref (ma 33), .ref (ma 34), .ref (ma 35), .int 0, .int 0, .ref (ma 38), .ref (ma 39), .ref (ma 40), .long 0])), ((ma 10), .inl (k 1, 220, .inl (mg 10)))]) [0, 30, 133, 137] rfl
  have hD := hD.sub (ws' := [((qa 0), .inr (9, [.ref (qa 1), .ref (qa 6), .ref (qa 9), .ref (qa 17), .ref (qa 18), .ref (qa 19), .ref (qa 20), .ref (qa 23), .ref (qa 25), .ref (qa 28), .ref (qa 29), .ref (qa 30), .ref (qa 31), .int 0, .int 0, .int 0])), ((qa 30), .inr (2, [.ref (qa 133), .ref (qa 134), .ref (qa 135), .ref (qa 136), .ref (qa 137), .ref (qa 138), .ref (qa 139), .int 0, .int 0, .int 0, .int 0, .int 0])), ((ma 0), .inr (10, [.int 0, .ref (ma 1), .int 0, .int 0, .ref (ma 4), .ref (ma 5), .ref (ma 6), .int 0, .int 0, .ref (ma 9), .ref (ma 10), .ref (ma 11), .ref (ma 12), .int 0, .ref (ma 14), .ref (ma 15), .int 0, .int 0, .ref (ma 18), .ref (ma 19), .ref (ma 20), .ref (ma 21), .ref (ma 22), .int 0, .ref (ma 24), .int 0, .ref (ma 26), .int 0, .int 0, .int 0, .int 0, .ref (ma 31), .ref (ma 32), .ref (ma 33), .ref (ma 34), .ref (ma 35), .int 0, .int 0, .ref (ma 38), .ref (ma 39), .ref (ma 40), .long 0])), ((ma 10), .inl (k 1, 220, .inl (mg 10)))]) [0, 30, 133, 137] (by decide) rfl
  refine lv_aload_n hx hb dL_law_382 rfl (lv_at hl 3 rfl) ?_
  refine lv_aload_n hx hb dL_law_383 rfl (lv_at hl 4 rfl) ?_
  refine lv_iload hx hb dL_law_384 (lv_at hl 0 rfl) ?_
  refine lv_iconst (v := 1) hx hb dL_law_386 (by decide) ?_
  refine lv_iadd hx hb dL_law_387 ?_
  refine p_topI (v := 1) (by decide) ?_
  refine va_sld hx hb hX hbl hbA hS (show ¬ (_ ∨ _) by decide) dL_law_388 ?_
  refine p_topI (v := (xs 1)) rfl ?_
  refine lv_aload_n hx hb dL_law_389 rfl (lv_at hl 4 rfl) ?_
  refine lv_iload hx hb dL_law_390 (lv_at hl 0 rfl) ?_
  refine lv_iconst (v := 2) hx hb dL_law_392 (by decide) ?_
  refine lv_iadd hx hb dL_law_393 ?_
  refine p_topI (v := 2) (by decide) ?_
  refine va_sld hx hb hX hbl hbA hS (show ¬ (_ ∨ _) by decide) dL_law_394 ?_
  refine p_topI (v := (xs 2)) rfl ?_
  refine lv_aload_n hx hb dL_law_395 rfl (lv_at hl 1 rfl) ?_
  have hFc := va_free (wc := [((qa 0), .inr (9, [.ref (qa 1), .ref (qa 6), .ref (qa 9), .ref (qa 17), .ref (qa 18), .ref (qa 19), .ref (qa 20), .ref (qa 23), .ref (qa 25), .ref (qa 28), .ref (qa 29), .ref (qa 30), .ref (qa 31), .int 0, .int 0, .int 0])), ((qa 30), .inr (2, [.ref (qa 133), .ref (qa 134), .ref (qa 135), .ref (qa 136), .ref (qa 137), .ref (qa 138), .ref (qa 139), .int 0, .int 0, .int 0, .int 0, .int 0]))]) hD hS hA [0, 1] rfl
  refine p_ji (wr := [((ma 0), .inr (10, [.int 0, .ref (ma 1), .int 0, .int 0, .ref (ma 4), .ref (ma 5), .ref (ma 6), .int 0, .int 0, .ref (ma 9), .ref (ma 10), .ref (ma 11), .ref (ma 12), .int 0, .ref (ma 14), .ref (ma 15), .int 0, .int 0, .ref (ma 18), .ref (ma 19), .ref (ma 20), .ref (ma 21), .ref (ma 22), .int 0, .ref (ma 24), .int 0, .ref (ma 26), .int 0, .int 0, .int 0, .int 0, .ref (ma 31), .ref (ma 32), .ref (ma 33), .ref (ma 34), .ref (ma 35), .int 0, .int 0, .ref (ma 38), .ref (ma 39), .ref (ma 40), .long 0])), ((ma 10), .inl (k 1, 220, .inl (mg 10)))]) (vx_runSW (As := [.ref (qa 0), .int (xs 1), .int (xs 2), .ref out]) (rest := []) ⟨hx, hb, hml, hown, hts⟩ (cL_river_ok l hst D k _ sa qa (xs 1) (xs 2) out) (vx_cwSW 4 hts lgL_river rfl rfl rfl (by decide +kernel) ⟨Nat.le_of_ble_eq_true rfl, Nat.le_of_ble_eq_true rfl⟩) ⟨fun a U g mk q => by obtain ⟨q0, ⟨q1, qP, qK, qN, qD⟩, qX⟩ := q; exact ⟨q0, ⟨q1, qP, va_K.moved (u := U) (U := U.calling g mk a) (Vm.Alike.refl U.vm) qK, pN.same (s := U) (U := U.calling g mk a) rfl qN, qD⟩, qX.blind⟩, fun U hU hW => ⟨rfl, ⟨by rw [hU], by rw [hU]; exact hP.sub [0, 1] rfl, va_K.moved hW.alike hK, hN.warm hW, (hD.sub [0, 1] (by decide) rfl).weaken (fun _ _ _ _ => trivial)⟩, hXX.to hS hU hW hFc⟩⟩ rfl rfl hl.1 rfl (lv_room (Nat.le_of_ble_eq_true rfl)) dL_law_396 ⟨by decide, by decide⟩) hP hD hS hA [0, 1] [2, 3] rfl rfl (by decide) (by decide) (fun r u H locs hw hP hD hS => ?_)
  have hw : r = 1 := hw
  subst hw
  have hP : va_P D vwCl [((ma 0), .inr (10, [.int 0, .ref (ma 1), .int 0, .int 0, .ref (ma 4), .ref (ma 5), .ref (ma 6), .int 0, .int 0, .ref (ma 9), .ref (ma 10), .ref (ma 11), .ref (ma 12), .int 0, .ref (ma 14), .ref (ma 15), .int 0, .int 0, .ref (ma 18), .ref (ma 19), .ref (ma 20), .ref (ma 21), .ref (ma 22), .int 0, .ref (ma 24), .int 0, .ref (ma 26), .int 0, .int 0, .int 0, .int 0, .ref (ma 31), .ref (ma 32), .ref (ma 33), .ref (ma 34), .ref (ma 35), .int 0, .int 0, .ref (ma 38), .ref (ma 39), .ref (ma 40), .long 0])), ((ma 10), .inl (k 1, 220, .inl (mg 10)))] H := hP
  have hD : va_D A [((ma 0), .inr (10, [.int 0, .ref (ma 1), .int 0, .int 0, .ref (ma 4), .ref (ma 5), .ref (ma 6), .int 0, .int 0, .ref (ma 9), .ref (ma 10), .ref (ma 11), .ref (ma 12), .int 0, .ref (ma 14), .ref (ma 15), .int 0, .int 0, .ref (ma 18), .ref (ma 19), .ref (ma 20), .ref (ma 21), .ref (ma 22), .int 0, .ref (ma 24), .int 0, .ref (ma 26), .int 0, .int 0, .int 0, .int 0, .ref (ma 31), .ref (ma 32), .ref (ma 33), .ref (ma 34), .ref (ma 35), .int 0, .int 0, .ref (ma 38), .ref (ma 39), .ref (ma 40), .long 0])), ((ma 10), .inl (k 1, 220, .inl (mg 10)))] := hD
  refine W.widen (k := 266) (n := 37836) (by decide) (by decide) ?_
  refine lv_istore (lv' := [(5, .int 1), (4, .int 0), (3, .ref out), (2, .ref (ma 0)), (1, .ref (qa 0)), (0, .ref b)]) hx hb dL_law_399 hl (by decide) rfl (fun ls hl => ?_)
  refine lv_aload_n hx hb dL_law_401 rfl (lv_at hl 3 rfl) ?_
  refine lv_aload_n hx hb dL_law_402 rfl (lv_at hl 5 rfl) ?_
  refine lv_iload hx hb dL_law_403 (lv_at hl 1 rfl) ?_
  refine lv_iconst (v := 1) hx hb dL_law_405 (by decide) ?_
  refine lv_iadd hx hb dL_law_406 ?_
  refine p_topI (v := 1) (by decide) ?_
  refine va_sld hx hb hX hbl hbA hS (show ¬ (_ ∨ _) by decide) dL_law_407 ?_
  refine p_topI (v := (xs 1)) rfl ?_
  refine lv_aload_n hx hb dL_law_408 rfl (lv_at hl 5 rfl) ?_
  refine lv_iload hx hb dL_law_409 (lv_at hl 1 rfl) ?_
  refine lv_iconst (v := 2) hx hb dL_law_411 (by decide) ?_
  refine lv_iadd hx hb dL_law_412 ?_
  refine p_topI (v := 2) (by decide) ?_
  refine va_sld hx hb hX hbl hbA hS (show ¬ (_ ∨ _) by decide) dL_law_413 ?_
  refine p_topI (v := (xs 2)) rfl ?_
  refine p_ji (wr := []) (va_runV (As := [.int (xs 1), .int (xs 2)]) (rest := []) ⟨hx, hb, hml, hown, hts⟩ (c_m_river l D k _ ma mg (xs 1) (xs 2) hl0) (cwV 2 hts lg_8 rfl rfl rfl (by decide +kernel) ⟨Nat.le_of_ble_eq_true rfl, Nat.le_of_ble_eq_true rfl⟩) (pV hK hN hP hD [0, 1] rfl (by decide) rfl 0 rfl rfl) rfl rfl hl.1 rfl (lv_room (Nat.le_of_ble_eq_true rfl)) dL_law_414 ⟨by decide, by decide⟩) hP hD hS hA [0, 1] [] rfl rfl (by decide) (by decide) (fun rx3 ux1 H locs wx2 hP hD hS => ?_)
  have hx4 : rx3 = 0 := wx2
  subst hx4
  have hP : va_P D vwCl [((ma 0), .inr (10, [.int 1, .ref (ma 1), .int 0, .int 0, .ref (ma 4), .ref (ma 5), .ref (ma 6), .int 0, .int 0, .ref (ma 9), .ref (ma 10), .ref (ma 11), .ref (ma 12), .int 0, .ref (ma 14), .ref (ma 15), .int 0, .int 0, .ref (ma 18), .ref (ma 19), .ref (ma 20), .ref (ma 21), .ref (ma 22), .int 0, .ref (ma 24), .int 0, .ref (ma 26), .int 0, .int 0, .int 0, .int 0, .ref (ma 31), .ref (ma 32), .ref (ma 33), .ref (ma 34), .ref (ma 35), .int 0, .int 0, .ref (ma 38), .ref (ma 39), .ref (ma 40), .long 0]))] H := hP
  have hD : va_D A [((ma 0), .inr (10, [.int 1, .ref (ma 1), .int 0, .int 0, .ref (ma 4), .ref (ma 5), .ref (ma 6), .int 0, .int 0, .ref (ma 9), .ref (ma 10), .ref (ma 11), .ref (ma 12), .int 0, .ref (ma 14), .ref (ma 15), .int 0, .int 0, .ref (ma 18), .ref (ma 19), .ref (ma 20), .ref (ma 21), .ref (ma 22), .int 0, .ref (ma 24), .int 0, .ref (ma 26), .int 0, .int 0, .int 0, .int 0, .ref (ma 31), .ref (ma 32), .ref (ma 33), .ref (ma 34), .ref (ma 35), .int 0, .int 0, .ref (ma 38), .ref (ma 39), .ref (ma 40), .long 0]))] := hD
  refine lv_istore (lv' := [(6, .int 0), (5, .int 1), (4, .int 0), (3, .ref out), (2, .ref (ma 0)), (1, .ref (qa 0)), (0, .ref b)]) hx hb dL_law_417 hl (by decide) rfl (fun ls hl => ?_)
  refine lv_aload_n hx hb dL_law_419 rfl (lv_at hl 4 rfl) ?_
  refine p_ji (wr := []) (va_runV (As := []) (rest := []) ⟨hx, hb, hml, hown, hts⟩ (c_m_thrown l D k _ ma 1 0 0 0 0 0 0 0 0 0 0 0 0 0 0 0 0) (cwV 0 hts lg_9 rfl rfl rfl (by decide +kernel) ⟨Nat.le_of_ble_eq_true rfl, Nat.le_of_ble_eq_true rfl⟩) (pV hK hN hP hD [0] rfl (by decide) rfl 0 rfl rfl) rfl rfl hl.1 rfl (lv_room (Nat.le_of_ble_eq_true rfl)) dL_law_420 ⟨by decide, by decide⟩) hP hD hS hA [0] [] rfl rfl (by decide) (by decide) (fun rx7 ux5 H locs wx6 hP hD hS => ?_)
  have hx8 : rx7 = 1 := wx6
  subst hx8
  have hP : va_P D vwCl [((ma 0), .inr (10, [.int 1, .ref (ma 1), .int 0, .int 0, .ref (ma 4), .ref (ma 5), .ref (ma 6), .int 0, .int 0, .ref (ma 9), .ref (ma 10), .ref (ma 11), .ref (ma 12), .int 0, .ref (ma 14), .ref (ma 15), .int 0, .int 0, .ref (ma 18), .ref (ma 19), .ref (ma 20), .ref (ma 21), .ref (ma 22), .int 0, .ref (ma 24), .int 0, .ref (ma 26), .int 0, .int 0, .int 0, .int 0, .ref (ma 31), .ref (ma 32), .ref (ma 33), .ref (ma 34), .ref (ma 35), .int 0, .int 0, .ref (ma 38), .ref (ma 39), .ref (ma 40), .long 0]))] H := hP
  have hD : va_D A [((ma 0), .inr (10, [.int 1, .ref (ma 1), .int 0, .int 0, .ref (ma 4), .ref (ma 5), .ref (ma 6), .int 0, .int 0, .ref (ma 9), .ref (ma 10), .ref (ma 11), .ref (ma 12), .int 0, .ref (ma 14), .ref (ma 15), .int 0, .int 0, .ref (ma 18), .ref (ma 19), .ref (ma 20), .ref (ma 21), .ref (ma 22), .int 0, .ref (ma 24), .int 0, .ref (ma 26), .int 0, .int 0, .int 0, .int 0, .ref (ma 31), .ref (ma 32), .ref (ma 33), .ref (ma 34), .ref (ma 35), .int 0, .int 0, .ref (ma 38), .ref (ma 39), .ref (ma 40), .long 0]))] := hD
  refine lv_iload hx hb dL_law_423 (lv_at hl 1 rfl) ?_
  refine lv_icmp_eq (tgt := 430) hx hb dL_law_425 (by decide) (fun cx9 => ?_) (fun h9 => absurd (by decide) h9)
  refine lv_iload hx hb dL_law_430 (lv_at hl 1 rfl) ?_
  refine lv_if_ne (tgt := 447) hx hb dL_law_432 (by decide) (fun cx10 => ?_) (fun h9 => absurd h9 (by decide))
  refine lv_goto (tgt := 1487) hx hb dL_law_447 (by decide) ?_
  refine lv_iinc (v := 7) (lv' := [(4, .int 7), (6, .int 0), (5, .int 1), (3, .ref out), (2, .ref (ma 0)), (1, .ref (qa 0)), (0, .ref b)]) hx hb dL_law_1487 hl (k := 2) rfl (by decide) (by decide) rfl (fun ls hl => ?_)
  refine lv_goto (tgt := 23) hx hb dL_law_1490 (by decide) ?_
  refine lv_iload hx hb dL_law_23 (lv_at hl 0 rfl) ?_
  refine lv_aload_n hx hb dL_law_25 rfl (lv_at hl 6 rfl) ?_
  refine va_slen hx hb hX hbl hbA hS dL_law_26 ?_
  refine p_topI (v := 7) (by decide) ?_
  refine lv_bipush (v := 7) hx hb dL_law_27 (by decide) ?_
  refine lv_isub hx hb dL_law_29 ?_
  refine p_topI (v := 0) (by decide) ?_
  refine lv_icmp_gt (tgt := 1493) hx hb dL_law_30 (by decide) (fun cx11 => ?_) (fun h9 => absurd (by decide) h9)
  refine lv_iconst (v := 1) hx hb dL_law_1493 (by decide) ?_
  refine va_forget (fun q hq => hAf _ (hS.2.2 q hq)) ?_
  refine W.widen (k := 600002) (n := 7302232) (by decide) (by decide) ?_
  exact lw_ret hx hb hr hlocks dL_law_1494
set_option maxHeartbeats 4000000 in
set_option maxRecDepth 100000 in
theorem lc_flow {p : Program} {e : Env} {s : State} {m : MethodId} {below : List Frame} {meth : Method} {c : Code} (l : Launch) {b : Nat} {xs : Nat → Int32} (C0 : lw_At p s m meth c b 7 xs) (hts : ∀ w ∈ p_tbl, w.before #[Value.ref b] s = true) {D : va_G} {k : Nat → ClassId} (hK : va_K D vwCl (pT k) s) (hN : pN s) {A : Nat → Prop} (hA : ∀ q : Nat, s.heap.size ≤ q → A q) (hAf : ∀ q : Nat, A q → s.heap.size ≤ q) (qa ma : Nat → Nat) (gs mg : Nat → Nat → Int32) (out : Nat) (hf : p_mf mg) {H : Heap} {locs : List Loc} {ls : Array Slot} (hP : va_P D vwCl (p_big k qa ma gs mg) H) (hD : va_D A (p_big k qa ma gs mg)) (hS : va_S A s.heap H locs) (hl : lv_has ls 7 [(4, .int 0), (3, .ref out), (2, .ref (ma 0)), (1, .ref (qa 0)), (0, .ref b)]) : W p l e room_1 s m #[Value.ref b] below meth c H locs 265 37830 (lw_Z below #[Value.ref b] s) (F0 m 450 ls []) := by
  obtain ⟨hx, hb, hr, hml, hown, -, hX, hbl, hlocks, hgv⟩ := C0
  obtain ⟨hl0, hl1, hl2, hs0, hs19, hs26, hn0, hm0, hm1, hm2, hm3⟩ := hf
  have hbA : ¬ A b := fun h => absurd (hAf b h) (Nat.not_le.mpr hbl)
  have hP := hP.sub (ws' := [((qa 0), .inr (9, [.ref (qa 1), .ref (qa 6), .ref (qa 9), .ref (qa 17), .ref (qa 18), .ref (qa 19), .ref (qa 20), .ref (qa 23), .ref (qa 25), .ref (qa 28), .ref (qa 29), .ref (qa 30), .ref (qa 31), .int 0, .int 0, .int 0])), ((qa 30), .inr (2, [.ref (qa 133), .ref (qa 134), .ref (qa 135), .ref (qa 136), .ref (qa 137), .ref (qa 138), .ref (qa 139), .int 0, .int 0, .int 0, .int 0, .int 0])), ((ma 0), .inr (10, [.int 0, .ref (ma 1), .int 0, .int 0, .ref (ma 4), .ref (ma 5), .ref (ma 6), .int 0, .int 0, .ref (ma 9), .ref (ma 10), .ref (ma 11), .ref (ma 12), .int 0, .ref (ma 14), .ref (ma 15), .int 0, .int 0, .ref (ma 18), .ref (ma 19), .ref (ma 20), .ref (ma 21), .ref (ma 22), .int 0, .ref (ma 24), .int 0, .ref (ma 26), .int 0, .int 0, .int 0, .int 0, .ref (ma 31), .ref (ma 32), .ref (ma 33), .ref (ma 34), .ref (ma 35), .int 0, .int 0, .ref (ma 38), .ref (ma 39), .ref (ma 40), .long 0])), ((ma 10), .inl (k 1, 220, .inl (mg 10)))]) [0, 30, 133, 137] rfl
  have hD := hD.sub (ws' := [((qa 0), .inr (9, [.ref (qa 1), .ref (qa 6), .ref (qa 9), .ref (qa 17), .ref (qa 18), .ref (qa 19), .ref (qa 20), .ref (qa 23), .ref (qa 25), .ref (qa 28), .ref (qa 29), .ref (qa 30), .ref (qa 31), .int 0, .int 0, .int 0])), ((qa 30), .inr (2, [.ref (qa 133), .ref (qa 134), .ref (qa 135), .ref (qa 136), .ref (qa 137), .ref (qa 138), .ref (qa 139), .int 0, .int 0, .int 0, .int 0, .int 0])), ((ma 0), .inr (10, [.int 0, .ref (ma 1), .int 0, .int 0, .ref (ma 4), .ref (ma 5), .ref (ma 6), .int 0, .int 0, .ref (ma 9), .ref (ma 10), .ref (ma 11), .ref (ma 12), .int 0, .ref (ma 14), .ref (ma 15), .int 0, .int 0, .ref (ma 18), .ref (ma 19), .ref (ma 20), .ref (ma 21), .ref (ma 22), .int 0, .ref (ma 24), .int 0, .ref (ma 26), .int 0, .int 0, .int 0, .int 0, .ref (ma 31), .ref (ma 32), .ref (ma 33), .ref (ma 34), .ref (ma 35), .int 0, .int 0, .ref (ma 38), .ref (ma 39), .ref (ma 40), .long 0])), ((ma 10), .inl (k 1, 220, .inl (mg 10)))]) [0, 30, 133, 137] (by decide) rfl
  refine lv_aload_n hx hb dL_law_450 rfl (lv_at hl 3 rfl) ?_
  refine lv_aload_n hx hb dL_law_451 rfl (lv_at hl 4 rfl) ?_
  refine lv_iload hx hb dL_law_452 (lv_at hl 0 rfl) ?_
  refine lv_iconst (v := 1) hx hb dL_law_454 (by decide) ?_
  refine lv_iadd hx hb dL_law_455 ?_
  refine p_topI (v := 1) (by decide) ?_
  refine va_sld hx hb hX hbl hbA hS (show ¬ (_ ∨ _) by decide) dL_law_456 ?_
  refine p_topI (v := (xs 1)) rfl ?_
  refine lv_aload_n hx hb dL_law_457 rfl (lv_at hl 4 rfl) ?_
  refine lv_iload hx hb dL_law_458 (lv_at hl 0 rfl) ?_
  refine lv_iconst (v := 2) hx hb dL_law_460 (by decide) ?_
  refine lv_iadd hx hb dL_law_461 ?_
  refine p_topI (v := 2) (by decide) ?_
  refine va_sld hx hb hX hbl hbA hS (show ¬ (_ ∨ _) by decide) dL_law_462 ?_
  refine p_topI (v := (xs 2)) rfl ?_
  refine lv_aload_n hx hb dL_law_463 rfl (lv_at hl 4 rfl) ?_
  refine lv_iload hx hb dL_law_464 (lv_at hl 0 rfl) ?_
  refine lv_iconst (v := 3) hx hb dL_law_466 (by decide) ?_
  refine lv_iadd hx hb dL_law_467 ?_
  refine p_topI (v := 3) (by decide) ?_
  refine va_sld hx hb hX hbl hbA hS (show ¬ (_ ∨ _) by decide) dL_law_468 ?_
  refine p_topI (v := (xs 3)) rfl ?_
  refine p_ji (wr := [((ma 0), .inr (10, [.int 0, .ref (ma 1), .int 0, .int 0, .ref (ma 4), .ref (ma 5), .ref (ma 6), .int 0, .int 0, .ref (ma 9), .ref (ma 10), .ref (ma 11), .ref (ma 12), .int 0, .ref (ma 14), .ref (ma 15), .int 0, .int 0, .ref (ma 18), .ref (ma 19), .ref (ma 20), .ref (ma 21), .ref (ma 22), .int 0, .ref (ma 24), .int 0, .ref (ma 26), .int 0, .int 0, .int 0, .int 0, .ref (ma 31), .ref (ma 32), .ref (ma 33), .ref (ma 34), .ref (ma 35), .int 0, .int 0, .ref (ma 38), .ref (ma 39), .ref (ma 40), .long 0])), ((ma 10), .inl (k 1, 220, .inl (mg 10)))]) (va_runV (As := [.int (xs 1), .int (xs 2), .int (xs 3)]) (rest := []) ⟨hx, hb, hml, hown, hts⟩ (c_flow l D k _ qa (xs 1) (xs 2) (xs 3)) (cwV 3 hts lg_10 rfl rfl rfl (by decide +kernel) ⟨Nat.le_of_ble_eq_true rfl, Nat.le_of_ble_eq_true rfl⟩) (pV hK hN hP hD [0, 1] rfl (by decide) rfl 0 rfl rfl) rfl rfl hl.1 rfl (lv_room (Nat.le_of_ble_eq_true rfl)) dL_law_469 ⟨by decide, by decide⟩) hP hD hS hA [0, 1] [2, 3] rfl rfl (by decide) (by decide) (fun rx3 ux1 H locs wx2 hP hD hS => ?_)
  have hx4 : rx3 = (-1) := wx2
  subst hx4
  have hP : va_P D vwCl [((ma 0), .inr (10, [.int 0, .ref (ma 1), .int 0, .int 0, .ref (ma 4), .ref (ma 5), .ref (ma 6), .int 0, .int 0, .ref (ma 9), .ref (ma 10), .ref (ma 11), .ref (ma 12), .int 0, .ref (ma 14), .ref (ma 15), .int 0, .int 0, .ref (ma 18), .ref (ma 19), .ref (ma 20), .ref (ma 21), .ref (ma 22), .int 0, .ref (ma 24), .int 0, .ref (ma 26), .int 0, .int 0, .int 0, .int 0, .ref (ma 31), .ref (ma 32), .ref (ma 33), .ref (ma 34), .ref (ma 35), .int 0, .int 0, .ref (ma 38), .ref (ma 39), .ref (ma 40), .long 0])), ((ma 10), .inl (k 1, 220, .inl (mg 10)))] H := hP
  have hD : va_D A [((ma 0), .inr (10, [.int 0, .ref (ma 1), .int 0, .int 0, .ref (ma 4), .ref (ma 5), .ref (ma 6), .int 0, .int 0, .ref (ma 9), .ref (ma 10), .ref (ma 11), .ref (ma 12), .int 0, .ref (ma 14), .ref (ma 15), .int 0, .int 0, .ref (ma 18), .ref (ma 19), .ref (ma 20), .ref (ma 21), .ref (ma 22), .int 0, .ref (ma 24), .int 0, .ref (ma 26), .int 0, .int 0, .int 0, .int 0, .ref (ma 31), .ref (ma 32), .ref (ma 33), .ref (ma 34), .ref (ma 35), .int 0, .int 0, .ref (ma 38), .ref (ma 39), .ref (ma 40), .long 0])), ((ma 10), .inl (k 1, 220, .inl (mg 10)))] := hD
  refine lv_aload_n hx hb dL_law_472 rfl (lv_at hl 2 rfl) ?_
  refine lv_aload_n hx hb dL_law_473 rfl (lv_at hl 4 rfl) ?_
  refine lv_iload hx hb dL_law_474 (lv_at hl 0 rfl) ?_
  refine lv_iconst (v := 1) hx hb dL_law_476 (by decide) ?_
  refine lv_iadd hx hb dL_law_477 ?_
  refine p_topI (v := 1) (by decide) ?_
  refine va_sld hx hb hX hbl hbA hS (show ¬ (_ ∨ _) by decide) dL_law_478 ?_
  refine p_topI (v := (xs 1)) rfl ?_
  refine lv_aload_n hx hb dL_law_479 rfl (lv_at hl 4 rfl) ?_
  refine lv_iload hx hb dL_law_480 (lv_at hl 0 rfl) ?_
  refine lv_iconst (v := 2) hx hb dL_law_482 (by decide) ?_
  refine lv_iadd hx hb dL_law_483 ?_
  refine p_topI (v := 2) (by decide) ?_
  refine va_sld hx hb hX hbl hbA hS (show ¬ (_ ∨ _) by decide) dL_law_484 ?_
  refine p_topI (v := (xs 2)) rfl ?_
  refine lv_aload_n hx hb dL_law_485 rfl (lv_at hl 4 rfl) ?_
  refine lv_iload hx hb dL_law_486 (lv_at hl 0 rfl) ?_
  refine lv_iconst (v := 3) hx hb dL_law_488 (by decide) ?_
  refine lv_iadd hx hb dL_law_489 ?_
  refine p_topI (v := 3) (by decide) ?_
  refine va_sld hx hb hX hbl hbA hS (show ¬ (_ ∨ _) by decide) dL_law_490 ?_
  refine p_topI (v := (xs 3)) rfl ?_
  refine p_ji (wr := []) (va_runV (As := [.int (xs 1), .int (xs 2), .int (xs 3)]) (rest := [.int (-1)]) ⟨hx, hb, hml, hown, hts⟩ (c_m_flow l D k _ ma mg (xs 1) (xs 2) (xs 3) hl0) (cwV 3 hts lg_11 rfl rfl rfl (by decide +kernel) ⟨Nat.le_of_ble_eq_true rfl, Nat.le_of_ble_eq_true rfl⟩) (pV hK hN hP hD [0, 1] rfl (by decide) rfl 0 rfl rfl) rfl rfl hl.1 rfl (lv_room (Nat.le_of_ble_eq_true rfl)) dL_law_491 ⟨by decide, by decide⟩) hP hD hS hA [0, 1] [] rfl rfl (by decide) (by decide) (fun rx7 ux5 H locs wx6 hP hD hS => ?_)
  have hx8 : rx7 = (-1) := wx6
  subst hx8
  have hP : va_P D vwCl [] H := hP
  have hD : va_D A [] := hD
  refine lv_icmp_eq (tgt := 1487) hx hb dL_law_494 (by decide) (fun cx9 => ?_) (fun h9 => absurd (by decide) h9)
  refine lv_iinc (v := 7) (lv' := [(4, .int 7), (3, .ref out), (2, .ref (ma 0)), (1, .ref (qa 0)), (0, .ref b)]) hx hb dL_law_1487 hl (k := 0) rfl (by decide) (by decide) rfl (fun ls hl => ?_)
  refine lv_goto (tgt := 23) hx hb dL_law_1490 (by decide) ?_
  refine lv_iload hx hb dL_law_23 (lv_at hl 0 rfl) ?_
  refine lv_aload_n hx hb dL_law_25 rfl (lv_at hl 4 rfl) ?_
  refine va_slen hx hb hX hbl hbA hS dL_law_26 ?_
  refine p_topI (v := 7) (by decide) ?_
  refine lv_bipush (v := 7) hx hb dL_law_27 (by decide) ?_
  refine lv_isub hx hb dL_law_29 ?_
  refine p_topI (v := 0) (by decide) ?_
  refine lv_icmp_gt (tgt := 1493) hx hb dL_law_30 (by decide) (fun cx10 => ?_) (fun h9 => absurd (by decide) h9)
  refine lv_iconst (v := 1) hx hb dL_law_1493 (by decide) ?_
  refine va_forget (fun q hq => hAf _ (hS.2.2 q hq)) ?_
  refine W.widen (k := 600002) (n := 7302232) (by decide) (by decide) ?_
  exact lw_ret hx hb hr hlocks dL_law_1494
set_option maxHeartbeats 4000000 in
set_option maxRecDepth 100000 in
theorem lc_needs {p : Program} {e : Env} {s : State} {m : MethodId} {below : List Frame} {meth : Method} {c : Code} (l : Launch) {b : Nat} {xs : Nat → Int32} (C0 : lw_At p s m meth c b 7 xs) (hts : ∀ w ∈ p_tbl, w.before #[Value.ref b] s = true) {D : va_G} {k : Nat → ClassId} (hK : va_K D vwCl (pT k) s) (hN : pN s) {A : Nat → Prop} (hA : ∀ q : Nat, s.heap.size ≤ q → A q) (hAf : ∀ q : Nat, A q → s.heap.size ≤ q) (qa ma : Nat → Nat) (gs mg : Nat → Nat → Int32) (out : Nat) (hf : p_mf mg) {H : Heap} {locs : List Loc} {ls : Array Slot} (hP : va_P D vwCl (p_big k qa ma gs mg) H) (hD : va_D A (p_big k qa ma gs mg)) (hS : va_S A s.heap H locs) (hl : lv_has ls 7 [(4, .int 0), (3, .ref out), (2, .ref (ma 0)), (1, .ref (qa 0)), (0, .ref b)]) : W p l e room_1 s m #[Value.ref b] below meth c H locs 265 37830 (lw_Z below #[Value.ref b] s) (F0 m 499 ls []) := by
  obtain ⟨hx, hb, hr, hml, hown, -, hX, hbl, hlocks, hgv⟩ := C0
  obtain ⟨hl0, hl1, hl2, hs0, hs19, hs26, hn0, hm0, hm1, hm2, hm3⟩ := hf
  have hbA : ¬ A b := fun h => absurd (hAf b h) (Nat.not_le.mpr hbl)
  have hP := hP.sub (ws' := [((qa 0), .inr (9, [.ref (qa 1), .ref (qa 6), .ref (qa 9), .ref (qa 17), .ref (qa 18), .ref (qa 19), .ref (qa 20), .ref (qa 23), .ref (qa 25), .ref (qa 28), .ref (qa 29), .ref (qa 30), .ref (qa 31), .int 0, .int 0, .int 0])), ((qa 9), .inr (8, [.ref (qa 10), .ref (qa 11), .ref (qa 12), .ref (qa 13), .ref (qa 14), .ref (qa 15), .ref (qa 16), .int 0, .int (-1), .int 0, .int 0])), ((qa 20), .inr (4, [.ref (qa 21), .ref (qa 22), .ref (qa 30)])), ((qa 21), .inl (k 1, 6, .inl (fun _ => 0))), ((qa 22), .inl (k 1, 6, .inl (fun _ => 0))), ((qa 30), .inr (2, [.ref (qa 133), .ref (qa 134), .ref (qa 135), .ref (qa 136), .ref (qa 137), .ref (qa 138), .ref (qa 139), .int 0, .int 0, .int 0, .int 0, .int 0])), ((ma 0), .inr (10, [.int 0, .ref (ma 1), .int 0, .int 0, .ref (ma 4), .ref (ma 5), .ref (ma 6), .int 0, .int 0, .ref (ma 9), .ref (ma 10), .ref (ma 11), .ref (ma 12), .int 0, .ref (ma 14), .ref (ma 15), .int 0, .int 0, .ref (ma 18), .ref (ma 19), .ref (ma 20), .ref (ma 21), .ref (ma 22), .int 0, .ref (ma 24), .int 0, .ref (ma 26), .int 0, .int 0, .int 0, .int 0, .ref (ma 31), .ref (ma 32), .ref (ma 33), .ref (ma 34), .ref (ma 35), .int 0, .int 0, .ref (ma 38), .ref (ma 39), .ref (ma 40), .long 0])), ((ma 10), .inl (k 1, 220, .inl (mg 10)))]) [0, 9, 20, 21, 22, 30, 133, 137] rfl
  have hD := hD.sub (ws' := [((qa 0), .inr (9, [.ref (qa 1), .ref (qa 6), .ref (qa 9), .ref (qa 17), .ref (qa 18), .ref (qa 19), .ref (qa 20), .ref (qa 23), .ref (qa 25), .ref (qa 28), .ref (qa 29), .ref (qa 30), .ref (qa 31), .int 0, .int 0, .int 0])), ((qa 9), .inr (8, [.ref (qa 10), .ref (qa 11), .ref (qa 12), .ref (qa 13), .ref (qa 14), .ref (qa 15), .ref (qa 16), .int 0, .int (-1), .int 0, .int 0])), ((qa 20), .inr (4, [.ref (qa 21), .ref (qa 22), .ref (qa 30)])), ((qa 21), .inl (k 1, 6, .inl (fun _ => 0))), ((qa 22), .inl (k 1, 6, .inl (fun _ => 0))), ((qa 30), .inr (2, [.ref (qa 133), .ref (qa 134), .ref (qa 135), .ref (qa 136), .ref (qa 137), .ref (qa 138), .ref (qa 139), .int 0, .int 0, .int 0, .int 0, .int 0])), ((ma 0), .inr (10, [.int 0, .ref (ma 1), .int 0, .int 0, .ref (ma 4), .ref (ma 5), .ref (ma 6), .int 0, .int 0, .ref (ma 9), .ref (ma 10), .ref (ma 11), .ref (ma 12), .int 0, .ref (ma 14), .ref (ma 15), .int 0, .int 0, .ref (ma 18), .ref (ma 19), .ref (ma 20), .ref (ma 21), .ref (ma 22), .int 0, .ref (ma 24), .int 0, .ref (ma 26), .int 0, .int 0, .int 0, .int 0, .ref (ma 31), .ref (ma 32), .ref (ma 33), .ref (ma 34), .ref (ma 35), .int 0, .int 0, .ref (ma 38), .ref (ma 39), .ref (ma 40), .long 0])), ((ma 10), .inl (k 1, 220, .inl (mg 10)))]) [0, 9, 20, 21, 22, 30, 133, 137] (by decide) rfl
  by_cases cA : (xs 1) < 0
  · skip
    refine lv_aload_n hx hb dL_law_499 rfl (lv_at hl 3 rfl) ?_
    refine lv_aload_n hx hb dL_law_500 rfl (lv_at hl 4 rfl) ?_
    refine lv_iload hx hb dL_law_501 (lv_at hl 0 rfl) ?_
    refine lv_iconst (v := 1) hx hb dL_law_503 (by decide) ?_
    refine lv_iadd hx hb dL_law_504 ?_
    refine p_topI (v := 1) (by decide) ?_
    refine va_sld hx hb hX hbl hbA hS (show ¬ (_ ∨ _) by decide) dL_law_505 ?_
    refine p_topI (v := (xs 1)) rfl ?_
    refine p_ji (wr := [((ma 0), .inr (10, [.int 0, .ref (ma 1), .int 0, .int 0, .ref (ma 4), .ref (ma 5), .ref (ma 6), .int 0, .int 0, .ref (ma 9), .ref (ma 10), .ref (ma 11), .ref (ma 12), .int 0, .ref (ma 14), .ref (ma 15), .int 0, .int 0, .ref (ma 18), .ref (ma 19), .ref (ma 20), .ref (ma 21), .ref (ma 22), .int 0, .ref (ma 24), .int 0, .ref (ma 26), .int 0, .int 0, .int 0, .int 0, .ref (ma 31), .ref (ma 32), .ref (ma 33), .ref (ma 34), .ref (ma 35), .int 0, .int 0, .ref (ma 38), .ref (ma 39), .ref (ma 40), .long 0])), ((ma 10), .inl (k 1, 220, .inl (mg 10)))]) (va_runV (As := [.int (xs 1)]) (rest := []) ⟨hx, hb, hml, hown, hts⟩ (c_needs_e l D k _ qa (xs 1) (show ¬ (xs 1) = 0 by revert cA; simp only [Int32.lt_iff_toInt_lt, Int32.le_iff_toInt_le, ← Int32.toInt_inj, (by decide : (0 : Int32).toInt = 0), (by decide : (1 : Int32).toInt = 1)]; omega) (show ¬ (xs 1) = 1 by revert cA; simp only [Int32.lt_iff_toInt_lt, Int32.le_iff_toInt_le, ← Int32.toInt_inj, (by decide : (0 : Int32).toInt = 0), (by decide : (1 : Int32).toInt = 1)]; omega)) (cwV 1 hts lg_12 rfl rfl rfl (by decide +kernel) ⟨Nat.le_of_ble_eq_true rfl, Nat.le_of_ble_eq_true rfl⟩) (pV hK hN hP hD [0, 1, 5, 2, 3, 4] rfl (by decide) rfl 0 rfl rfl) rfl rfl hl.1 rfl (lv_room (Nat.le_of_ble_eq_true rfl)) dL_law_506 ⟨by decide, by decide⟩) hP hD hS hA [0, 1, 5, 2, 3, 4] [6, 7] rfl rfl (by decide) (by decide) (fun rx3 ux1 H locs wx2 hP hD hS => ?_)
    have hx4 : rx3 = (-1) := wx2
    subst hx4
    have hP : va_P D vwCl [((ma 0), .inr (10, [.int 0, .ref (ma 1), .int 0, .int 0, .ref (ma 4), .ref (ma 5), .ref (ma 6), .int 0, .int 0, .ref (ma 9), .ref (ma 10), .ref (ma 11), .ref (ma 12), .int 0, .ref (ma 14), .ref (ma 15), .int 0, .int 0, .ref (ma 18), .ref (ma 19), .ref (ma 20), .ref (ma 21), .ref (ma 22), .int 0, .ref (ma 24), .int 0, .ref (ma 26), .int 0, .int 0, .int 0, .int 0, .ref (ma 31), .ref (ma 32), .ref (ma 33), .ref (ma 34), .ref (ma 35), .int 0, .int 0, .ref (ma 38), .ref (ma 39), .ref (ma 40), .long 0])), ((ma 10), .inl (k 1, 220, .inl (mg 10)))] H := hP
    have hD : va_D A [((ma 0), .inr (10, [.int 0, .ref (ma 1), .int 0, .int 0, .ref (ma 4), .ref (ma 5), .ref (ma 6), .int 0, .int 0, .ref (ma 9), .ref (ma 10), .ref (ma 11), .ref (ma 12), .int 0, .ref (ma 14), .ref (ma 15), .int 0, .int 0, .ref (ma 18), .ref (ma 19), .ref (ma 20), .ref (ma 21), .ref (ma 22), .int 0, .ref (ma 24), .int 0, .ref (ma 26), .int 0, .int 0, .int 0, .int 0, .ref (ma 31), .ref (ma 32), .ref (ma 33), .ref (ma 34), .ref (ma 35), .int 0, .int 0, .ref (ma 38), .ref (ma 39), .ref (ma 40), .long 0])), ((ma 10), .inl (k 1, 220, .inl (mg 10)))] := hD
    refine lv_aload_n hx hb dL_law_509 rfl (lv_at hl 2 rfl) ?_
    refine lv_aload_n hx hb dL_law_510 rfl (lv_at hl 4 rfl) ?_
    refine lv_iload hx hb dL_law_511 (lv_at hl 0 rfl) ?_
    refine lv_iconst (v := 1) hx hb dL_law_513 (by decide) ?_
    refine lv_iadd hx hb dL_law_514 ?_
    refine p_topI (v := 1) (by decide) ?_
    refine va_sld hx hb hX hbl hbA hS (show ¬ (_ ∨ _) by decide) dL_law_515 ?_
    refine p_topI (v := (xs 1)) rfl ?_
    refine p_ji (wr := []) (va_runV (As := [.int (xs 1)]) (rest := [.int (-1)]) ⟨hx, hb, hml, hown, hts⟩ (c_m_needs_lo l D k _ ma mg (xs 1) hl0 cA) (cwV 1 hts lg_13 rfl rfl rfl (by decide +kernel) ⟨Nat.le_of_ble_eq_true rfl, Nat.le_of_ble_eq_true rfl⟩) (pV hK hN hP hD [0, 1] rfl (by decide) rfl 0 rfl rfl) rfl rfl hl.1 rfl (lv_room (Nat.le_of_ble_eq_true rfl)) dL_law_516 ⟨by decide, by decide⟩) hP hD hS hA [0, 1] [] rfl rfl (by decide) (by decide) (fun rx7 ux5 H locs wx6 hP hD hS => ?_)
    have hx8 : rx7 = (-1) := wx6
    subst hx8
    have hP : va_P D vwCl [] H := hP
    have hD : va_D A [] := hD
    refine lv_icmp_eq (tgt := 1487) hx hb dL_law_519 (by decide) (fun cx9 => ?_) (fun h9 => absurd (by decide) h9)
    refine lv_iinc (v := 7) (lv' := [(4, .int 7), (3, .ref out), (2, .ref (ma 0)), (1, .ref (qa 0)), (0, .ref b)]) hx hb dL_law_1487 hl (k := 0) rfl (by decide) (by decide) rfl (fun ls hl => ?_)
    refine lv_goto (tgt := 23) hx hb dL_law_1490 (by decide) ?_
    refine lv_iload hx hb dL_law_23 (lv_at hl 0 rfl) ?_
    refine lv_aload_n hx hb dL_law_25 rfl (lv_at hl 4 rfl) ?_
    refine va_slen hx hb hX hbl hbA hS dL_law_26 ?_
    refine p_topI (v := 7) (by decide) ?_
    refine lv_bipush (v := 7) hx hb dL_law_27 (by decide) ?_
    refine lv_isub hx hb dL_law_29 ?_
    refine p_topI (v := 0) (by decide) ?_
    refine lv_icmp_gt (tgt := 1493) hx hb dL_law_30 (by decide) (fun cx10 => ?_) (fun h9 => absurd (by decide) h9)
    refine lv_iconst (v := 1) hx hb dL_law_1493 (by decide) ?_
    refine va_forget (fun q hq => hAf _ (hS.2.2 q hq)) ?_
    refine W.widen (k := 600002) (n := 7302232) (by decide) (by decide) ?_
    exact lw_ret hx hb hr hlocks dL_law_1494
  by_cases cB : 1 < (xs 1)
  · skip
    refine lv_aload_n hx hb dL_law_499 rfl (lv_at hl 3 rfl) ?_
    refine lv_aload_n hx hb dL_law_500 rfl (lv_at hl 4 rfl) ?_
    refine lv_iload hx hb dL_law_501 (lv_at hl 0 rfl) ?_
    refine lv_iconst (v := 1) hx hb dL_law_503 (by decide) ?_
    refine lv_iadd hx hb dL_law_504 ?_
    refine p_topI (v := 1) (by decide) ?_
    refine va_sld hx hb hX hbl hbA hS (show ¬ (_ ∨ _) by decide) dL_law_505 ?_
    refine p_topI (v := (xs 1)) rfl ?_
    refine p_ji (wr := [((ma 0), .inr (10, [.int 0, .ref (ma 1), .int 0, .int 0, .ref (ma 4), .ref (ma 5), .ref (ma 6), .int 0, .int 0, .ref (ma 9), .ref (ma 10), .ref (ma 11), .ref (ma 12), .int 0, .ref (ma 14), .ref (ma 15), .int 0, .int 0, .ref (ma 18), .ref (ma 19), .ref (ma 20), .ref (ma 21), .ref (ma 22), .int 0, .ref (ma 24), .int 0, .ref (ma 26), .int 0, .int 0, .int 0, .int 0, .ref (ma 31), .ref (ma 32), .ref (ma 33), .ref (ma 34), .ref (ma 35), .int 0, .int 0, .ref (ma 38), .ref (ma 39), .ref (ma 40), .long 0])), ((ma 10), .inl (k 1, 220, .inl (mg 10)))]) (va_runV (As := [.int (xs 1)]) (rest := []) ⟨hx, hb, hml, hown, hts⟩ (c_needs_e l D k _ qa (xs 1) (show ¬ (xs 1) = 0 by revert cB; simp only [Int32.lt_iff_toInt_lt, Int32.le_iff_toInt_le, ← Int32.toInt_inj, (by decide : (0 : Int32).toInt = 0), (by decide : (1 : Int32).toInt = 1)]; omega) (show ¬ (xs 1) = 1 by revert cB; simp only [Int32.lt_iff_toInt_lt, Int32.le_iff_toInt_le, ← Int32.toInt_inj, (by decide : (1 : Int32).toInt = 1)]; omega)) (cwV 1 hts lg_12 rfl rfl rfl (by decide +kernel) ⟨Nat.le_of_ble_eq_true rfl, Nat.le_of_ble_eq_true rfl⟩) (pV hK hN hP hD [0, 1, 5, 2, 3, 4] rfl (by decide) rfl 0 rfl rfl) rfl rfl hl.1 rfl (lv_room (Nat.le_of_ble_eq_true rfl)) dL_law_506 ⟨by decide, by decide⟩) hP hD hS hA [0, 1, 5, 2, 3, 4] [6, 7] rfl rfl (by decide) (by decide) (fun rx13 ux11 H locs wx12 hP hD hS => ?_)
    have hx14 : rx13 = (-1) := wx12
    subst hx14
    have hP : va_P D vwCl [((ma 0), .inr (10, [.int 0, .ref (ma 1), .int 0, .int 0, .ref (ma 4), .ref (ma 5), .ref (ma 6), .int 0, .int 0, .ref (ma 9), .ref (ma 10), .ref (ma 11), .ref (ma 12), .int 0, .ref (ma 14), .ref (ma 15), .int 0, .int 0, .ref (ma 18), .ref (ma 19), .ref (ma 20), .ref (ma 21), .ref (ma 22), .int 0, .ref (ma 24), .int 0, .ref (ma 26), .int 0, .int 0, .int 0, .int 0, .ref (ma 31), .ref (ma 32), .ref (ma 33), .ref (ma 34), .ref (ma 35), .int 0, .int 0, .ref (ma 38), .ref (ma 39), .ref (ma 40), .long 0])), ((ma 10), .inl (k 1, 220, .inl (mg 10)))] H := hP
    have hD : va_D A [((ma 0), .inr (10, [.int 0, .ref (ma 1), .int 0, .int 0, .ref (ma 4), .ref (ma 5), .ref (ma 6), .int 0, .int 0, .ref (ma 9), .ref (ma 10), .ref (ma 11), .ref (ma 12), .int 0, .ref (ma 14), .ref (ma 15), .int 0, .int 0, .ref (ma 18), .ref (ma 19), .ref (ma 20), .ref (ma 21), .ref (ma 22), .int 0, .ref (ma 24), .int 0, .ref (ma 26), .int 0, .int 0, .int 0, .int 0, .ref (ma 31), .ref (ma 32), .ref (ma 33), .ref (ma 34), .ref (ma 35), .int 0, .int 0, .ref (ma 38), .ref (ma 39), .ref (ma 40), .long 0])), ((ma 10), .inl (k 1, 220, .inl (mg 10)))] := hD
    refine lv_aload_n hx hb dL_law_509 rfl (lv_at hl 2 rfl) ?_
    refine lv_aload_n hx hb dL_law_510 rfl (lv_at hl 4 rfl) ?_
    refine lv_iload hx hb dL_law_511 (lv_at hl 0 rfl) ?_
    refine lv_iconst (v := 1) hx hb dL_law_513 (by decide) ?_
    refine lv_iadd hx hb dL_law_514 ?_
    refine p_topI (v := 1) (by decide) ?_
    refine va_sld hx hb hX hbl hbA hS (show ¬ (_ ∨ _) by decide) dL_law_515 ?_
    refine p_topI (v := (xs 1)) rfl ?_
    refine p_ji (wr := []) (va_runV (As := [.int (xs 1)]) (rest := [.int (-1)]) ⟨hx, hb, hml, hown, hts⟩ (c_m_needs_hi l D k _ ma mg (xs 1) hl0 cB) (cwV 1 hts lg_14 rfl rfl rfl (by decide +kernel) ⟨Nat.le_of_ble_eq_true rfl, Nat.le_of_ble_eq_true rfl⟩) (pV hK hN hP hD [0, 1] rfl (by decide) rfl 0 rfl rfl) rfl rfl hl.1 rfl (lv_room (Nat.le_of_ble_eq_true rfl)) dL_law_516 ⟨by decide, by decide⟩) hP hD hS hA [0, 1] [] rfl rfl (by decide) (by decide) (fun rx17 ux15 H locs wx16 hP hD hS => ?_)
    have hx18 : rx17 = (-1) := wx16
    subst hx18
    have hP : va_P D vwCl [] H := hP
    have hD : va_D A [] := hD
    refine lv_icmp_eq (tgt := 1487) hx hb dL_law_519 (by decide) (fun cx19 => ?_) (fun h9 => absurd (by decide) h9)
    refine lv_iinc (v := 7) (lv' := [(4, .int 7), (3, .ref out), (2, .ref (ma 0)), (1, .ref (qa 0)), (0, .ref b)]) hx hb dL_law_1487 hl (k := 0) rfl (by decide) (by decide) rfl (fun ls hl => ?_)
    refine lv_goto (tgt := 23) hx hb dL_law_1490 (by decide) ?_
    refine lv_iload hx hb dL_law_23 (lv_at hl 0 rfl) ?_
    refine lv_aload_n hx hb dL_law_25 rfl (lv_at hl 4 rfl) ?_
    refine va_slen hx hb hX hbl hbA hS dL_law_26 ?_
    refine p_topI (v := 7) (by decide) ?_
    refine lv_bipush (v := 7) hx hb dL_law_27 (by decide) ?_
    refine lv_isub hx hb dL_law_29 ?_
    refine p_topI (v := 0) (by decide) ?_
    refine lv_icmp_gt (tgt := 1493) hx hb dL_law_30 (by decide) (fun cx20 => ?_) (fun h9 => absurd (by decide) h9)
    refine lv_iconst (v := 1) hx hb dL_law_1493 (by decide) ?_
    refine va_forget (fun q hq => hAf _ (hS.2.2 q hq)) ?_
    refine W.widen (k := 600002) (n := 7302232) (by decide) (by decide) ?_
    exact lw_ret hx hb hr hlocks dL_law_1494
  rcases (show (xs 1) = 0 ∨ (xs 1) = 1 by revert cA cB; simp only [Int32.lt_iff_toInt_lt, ← Int32.toInt_inj, (by decide : (0 : Int32).toInt = 0), (by decide : (1 : Int32).toInt = 1)]; omega) with cC | cC
  · skip
    refine lv_aload_n hx hb dL_law_499 rfl (lv_at hl 3 rfl) ?_
    refine lv_aload_n hx hb dL_law_500 rfl (lv_at hl 4 rfl) ?_
    refine lv_iload hx hb dL_law_501 (lv_at hl 0 rfl) ?_
    refine lv_iconst (v := 1) hx hb dL_law_503 (by decide) ?_
    refine lv_iadd hx hb dL_law_504 ?_
    refine p_topI (v := 1) (by decide) ?_
    refine va_sld hx hb hX hbl hbA hS (show ¬ (_ ∨ _) by decide) dL_law_505 ?_
    refine p_topI (v := 0) cC ?_
    refine p_ji (wr := [((ma 0), .inr (10, [.int 0, .ref (ma 1), .int 0, .int 0, .ref (ma 4), .ref (ma 5), .ref (ma 6), .int 0, .int 0, .ref (ma 9), .ref (ma 10), .ref (ma 11), .ref (ma 12), .int 0, .ref (ma 14), .ref (ma 15), .int 0, .int 0, .ref (ma 18), .ref (ma 19), .ref (ma 20), .ref (ma 21), .ref (ma 22), .int 0, .ref (ma 24), .int 0, .ref (ma 26), .int 0, .int 0, .int 0, .int 0, .ref (ma 31), .ref (ma 32), .ref (ma 33), .ref (ma 34), .ref (ma 35), .int 0, .int 0, .ref (ma 38), .ref (ma 39), .ref (ma 40), .long 0])), ((ma 10), .inl (k 1, 220, .inl (mg 10)))]) (va_runV (As := [.int 0]) (rest := []) ⟨hx, hb, hml, hown, hts⟩ (c_needs_0 l D k _ qa) (cwV 1 hts lg_15 rfl rfl rfl (by decide +kernel) ⟨Nat.le_of_ble_eq_true rfl, Nat.le_of_ble_eq_true rfl⟩) (pV hK hN hP hD [0, 1, 5, 2, 3, 4] rfl (by decide) rfl 0 rfl rfl) rfl rfl hl.1 rfl (lv_room (Nat.le_of_ble_eq_true rfl)) dL_law_506 ⟨by decide, by decide⟩) hP hD hS hA [0, 1, 5, 2, 3, 4] [6, 7] rfl rfl (by decide) (by decide) (fun rx23 ux21 H locs wx22 hP hD hS => ?_)
    have hx24 : rx23 = 0 := wx22
    subst hx24
    have hP : va_P D vwCl [((ma 0), .inr (10, [.int 0, .ref (ma 1), .int 0, .int 0, .ref (ma 4), .ref (ma 5), .ref (ma 6), .int 0, .int 0, .ref (ma 9), .ref (ma 10), .ref (ma 11), .ref (ma 12), .int 0, .ref (ma 14), .ref (ma 15), .int 0, .int 0, .ref (ma 18), .ref (ma 19), .ref (ma 20), .ref (ma 21), .ref (ma 22), .int 0, .ref (ma 24), .int 0, .ref (ma 26), .int 0, .int 0, .int 0, .int 0, .ref (ma 31), .ref (ma 32), .ref (ma 33), .ref (ma 34), .ref (ma 35), .int 0, .int 0, .ref (ma 38), .ref (ma 39), .ref (ma 40), .long 0])), ((ma 10), .inl (k 1, 220, .inl (mg 10)))] H := hP
    have hD : va_D A [((ma 0), .inr (10, [.int 0, .ref (ma 1), .int 0, .int 0, .ref (ma 4), .ref (ma 5), .ref (ma 6), .int 0, .int 0, .ref (ma 9), .ref (ma 10), .ref (ma 11), .ref (ma 12), .int 0, .ref (ma 14), .ref (ma 15), .int 0, .int 0, .ref (ma 18), .ref (ma 19), .ref (ma 20), .ref (ma 21), .ref (ma 22), .int 0, .ref (ma 24), .int 0, .ref (ma 26), .int 0, .int 0, .int 0, .int 0, .ref (ma 31), .ref (ma 32), .ref (ma 33), .ref (ma 34), .ref (ma 35), .int 0, .int 0, .ref (ma 38), .ref (ma 39), .ref (ma 40), .long 0])), ((ma 10), .inl (k 1, 220, .inl (mg 10)))] := hD
    refine lv_aload_n hx hb dL_law_509 rfl (lv_at hl 2 rfl) ?_
    refine lv_aload_n hx hb dL_law_510 rfl (lv_at hl 4 rfl) ?_
    refine lv_iload hx hb dL_law_511 (lv_at hl 0 rfl) ?_
    refine lv_iconst (v := 1) hx hb dL_law_513 (by decide) ?_
    refine lv_iadd hx hb dL_law_514 ?_
    refine p_topI (v := 1) (by decide) ?_
    refine va_sld hx hb hX hbl hbA hS (show ¬ (_ ∨ _) by decide) dL_law_515 ?_
    refine p_topI (v := 0) cC ?_
    refine p_ji (wr := []) (va_runV (As := [.int 0]) (rest := [.int 0]) ⟨hx, hb, hml, hown, hts⟩ (c_m_needs_0 l D k _ ma mg hl0) (cwV 1 hts lg_16 rfl rfl rfl (by decide +kernel) ⟨Nat.le_of_ble_eq_true rfl, Nat.le_of_ble_eq_true rfl⟩) (pV hK hN hP hD [0, 1] rfl (by decide) rfl 0 rfl rfl) rfl rfl hl.1 rfl (lv_room (Nat.le_of_ble_eq_true rfl)) dL_law_516 ⟨by decide, by decide⟩) hP hD hS hA [0, 1] [] rfl rfl (by decide) (by decide) (fun rx27 ux25 H locs wx26 hP hD hS => ?_)
    have hx28 : rx27 = 0 := wx26
    subst hx28
    have hP : va_P D vwCl [] H := hP
    have hD : va_D A [] := hD
    refine lv_icmp_eq (tgt := 1487) hx hb dL_law_519 (by decide) (fun cx29 => ?_) (fun h9 => absurd (by decide) h9)
    refine lv_iinc (v := 7) (lv' := [(4, .int 7), (3, .ref out), (2, .ref (ma 0)), (1, .ref (qa 0)), (0, .ref b)]) hx hb dL_law_1487 hl (k := 0) rfl (by decide) (by decide) rfl (fun ls hl => ?_)
    refine lv_goto (tgt := 23) hx hb dL_law_1490 (by decide) ?_
    refine lv_iload hx hb dL_law_23 (lv_at hl 0 rfl) ?_
    refine lv_aload_n hx hb dL_law_25 rfl (lv_at hl 4 rfl) ?_
    refine va_slen hx hb hX hbl hbA hS dL_law_26 ?_
    refine p_topI (v := 7) (by decide) ?_
    refine lv_bipush (v := 7) hx hb dL_law_27 (by decide) ?_
    refine lv_isub hx hb dL_law_29 ?_
    refine p_topI (v := 0) (by decide) ?_
    refine lv_icmp_gt (tgt := 1493) hx hb dL_law_30 (by decide) (fun cx30 => ?_) (fun h9 => absurd (by decide) h9)
    refine lv_iconst (v := 1) hx hb dL_law_1493 (by decide) ?_
    refine va_forget (fun q hq => hAf _ (hS.2.2 q hq)) ?_
    refine W.widen (k := 600002) (n := 7302232) (by decide) (by decide) ?_
    exact lw_ret hx hb hr hlocks dL_law_1494
  · skip
    refine lv_aload_n hx hb dL_law_499 rfl (lv_at hl 3 rfl) ?_
    refine lv_aload_n hx hb dL_law_500 rfl (lv_at hl 4 rfl) ?_
    refine lv_iload hx hb dL_law_501 (lv_at hl 0 rfl) ?_
    refine lv_iconst (v := 1) hx hb dL_law_503 (by decide) ?_
    refine lv_iadd hx hb dL_law_504 ?_
    refine p_topI (v := 1) (by decide) ?_
    refine va_sld hx hb hX hbl hbA hS (show ¬ (_ ∨ _) by decide) dL_law_505 ?_
    refine p_topI (v := 1) cC ?_
    refine p_ji (wr := [((ma 0), .inr (10, [.int 0, .ref (ma 1), .int 0, .int 0, .ref (ma 4), .ref (ma 5), .ref (ma 6), .int 0, .int 0, .ref (ma 9), .ref (ma 10), .ref (ma 11), .ref (ma 12), .int 0, .ref (ma 14), .ref (ma 15), .int 0, .int 0, .ref (ma 18), .ref (ma 19), .ref (ma 20), .ref (ma 21), .ref (ma 22), .int 0, .ref (ma 24), .int 0, .ref (ma 26), .int 0, .int 0, .int 0, .int 0, .ref (ma 31), .ref (ma 32), .ref (ma 33), .ref (ma 34), .ref (ma 35), .int 0, .int 0, .ref (ma 38), .ref (ma 39), .ref (ma 40), .long 0])), ((ma 10), .inl (k 1, 220, .inl (mg 10)))]) (va_runV (As := [.int 1]) (rest := []) ⟨hx, hb, hml, hown, hts⟩ (c_needs_1 l D k _ qa) (cwV 1 hts lg_17 rfl rfl rfl (by decide +kernel) ⟨Nat.le_of_ble_eq_true rfl, Nat.le_of_ble_eq_true rfl⟩) (pV hK hN hP hD [0, 1, 5, 2, 3, 4] rfl (by decide) rfl 0 rfl rfl) rfl rfl hl.1 rfl (lv_room (Nat.le_of_ble_eq_true rfl)) dL_law_506 ⟨by decide, by decide⟩) hP hD hS hA [0, 1, 5, 2, 3, 4] [6, 7] rfl rfl (by decide) (by decide) (fun rx33 ux31 H locs wx32 hP hD hS => ?_)
    have hx34 : rx33 = 0 := wx32
    subst hx34
    have hP : va_P D vwCl [((ma 0), .inr (10, [.int 0, .ref (ma 1), .int 0, .int 0, .ref (ma 4), .ref (ma 5), .ref (ma 6), .int 0, .int 0, .ref (ma 9), .ref (ma 10), .ref (ma 11), .ref (ma 12), .int 0, .ref (ma 14), .ref (ma 15), .int 0, .int 0, .ref (ma 18), .ref (ma 19), .ref (ma 20), .ref (ma 21), .ref (ma 22), .int 0, .ref (ma 24), .int 0, .ref (ma 26), .int 0, .int 0, .int 0, .int 0, .ref (ma 31), .ref (ma 32), .ref (ma 33), .ref (ma 34), .ref (ma 35), .int 0, .int 0, .ref (ma 38), .ref (ma 39), .ref (ma 40), .long 0])), ((ma 10), .inl (k 1, 220, .inl (mg 10)))] H := hP
    have hD : va_D A [((ma 0), .inr (10, [.int 0, .ref (ma 1), .int 0, .int 0, .ref (ma 4), .ref (ma 5), .ref (ma 6), .int 0, .int 0, .ref (ma 9), .ref (ma 10), .ref (ma 11), .ref (ma 12), .int 0, .ref (ma 14), .ref (ma 15), .int 0, .int 0, .ref (ma 18), .ref (ma 19), .ref (ma 20), .ref (ma 21), .ref (ma 22), .int 0, .ref (ma 24), .int 0, .ref (ma 26), .int 0, .int 0, .int 0, .int 0, .ref (ma 31), .ref (ma 32), .ref (ma 33), .ref (ma 34), .ref (ma 35), .int 0, .int 0, .ref (ma 38), .ref (ma 39), .ref (ma 40), .long 0])), ((ma 10), .inl (k 1, 220, .inl (mg 10)))] := hD
    refine lv_aload_n hx hb dL_law_509 rfl (lv_at hl 2 rfl) ?_
    refine lv_aload_n hx hb dL_law_510 rfl (lv_at hl 4 rfl) ?_
    refine lv_iload hx hb dL_law_511 (lv_at hl 0 rfl) ?_
    refine lv_iconst (v := 1) hx hb dL_law_513 (by decide) ?_
    refine lv_iadd hx hb dL_law_514 ?_
    refine p_topI (v := 1) (by decide) ?_
    refine va_sld hx hb hX hbl hbA hS (show ¬ (_ ∨ _) by decide) dL_law_515 ?_
    refine p_topI (v := 1) cC ?_
    refine p_ji (wr := []) (va_runV (As := [.int 1]) (rest := [.int 0]) ⟨hx, hb, hml, hown, hts⟩ (c_m_needs_1 l D k _ ma mg hl0) (cwV 1 hts lg_18 rfl rfl rfl (by decide +kernel) ⟨Nat.le_of_ble_eq_true rfl, Nat.le_of_ble_eq_true rfl⟩) (pV hK hN hP hD [0, 1] rfl (by decide) rfl 0 rfl rfl) rfl rfl hl.1 rfl (lv_room (Nat.le_of_ble_eq_true rfl)) dL_law_516 ⟨by decide, by decide⟩) hP hD hS hA [0, 1] [] rfl rfl (by decide) (by decide) (fun rx37 ux35 H locs wx36 hP hD hS => ?_)
    have hx38 : rx37 = 0 := wx36
    subst hx38
    have hP : va_P D vwCl [] H := hP
    have hD : va_D A [] := hD
    refine lv_icmp_eq (tgt := 1487) hx hb dL_law_519 (by decide) (fun cx39 => ?_) (fun h9 => absurd (by decide) h9)
    refine lv_iinc (v := 7) (lv' := [(4, .int 7), (3, .ref out), (2, .ref (ma 0)), (1, .ref (qa 0)), (0, .ref b)]) hx hb dL_law_1487 hl (k := 0) rfl (by decide) (by decide) rfl (fun ls hl => ?_)
    refine lv_goto (tgt := 23) hx hb dL_law_1490 (by decide) ?_
    refine lv_iload hx hb dL_law_23 (lv_at hl 0 rfl) ?_
    refine lv_aload_n hx hb dL_law_25 rfl (lv_at hl 4 rfl) ?_
    refine va_slen hx hb hX hbl hbA hS dL_law_26 ?_
    refine p_topI (v := 7) (by decide) ?_
    refine lv_bipush (v := 7) hx hb dL_law_27 (by decide) ?_
    refine lv_isub hx hb dL_law_29 ?_
    refine p_topI (v := 0) (by decide) ?_
    refine lv_icmp_gt (tgt := 1493) hx hb dL_law_30 (by decide) (fun cx40 => ?_) (fun h9 => absurd (by decide) h9)
    refine lv_iconst (v := 1) hx hb dL_law_1493 (by decide) ?_
    refine va_forget (fun q hq => hAf _ (hS.2.2 q hq)) ?_
    refine W.widen (k := 600002) (n := 7302232) (by decide) (by decide) ?_
    exact lw_ret hx hb hr hlocks dL_law_1494
set_option maxHeartbeats 4000000 in
set_option maxRecDepth 100000 in
theorem lc_near {p : Program} {e : Env} {s : State} {m : MethodId} {below : List Frame} {meth : Method} {c : Code} (l : Launch) {b : Nat} {xs : Nat → Int32} (C0 : lw_At p s m meth c b 7 xs) (hts : ∀ w ∈ p_tbl, w.before #[Value.ref b] s = true) {D : va_G} {k : Nat → ClassId} (hK : va_K D vwCl (pT k) s) (hN : pN s) {A : Nat → Prop} (hA : ∀ q : Nat, s.heap.size ≤ q → A q) (hAf : ∀ q : Nat, A q → s.heap.size ≤ q) (qa ma : Nat → Nat) (gs mg : Nat → Nat → Int32) (out : Nat) (hf : p_mf mg) {H : Heap} {locs : List Loc} {ls : Array Slot} (hP : va_P D vwCl (p_big k qa ma gs mg) H) (hD : va_D A (p_big k qa ma gs mg)) (hS : va_S A s.heap H locs) (hl : lv_has ls 7 [(4, .int 0), (3, .ref out), (2, .ref (ma 0)), (1, .ref (qa 0)), (0, .ref b)]) : W p l e room_1 s m #[Value.ref b] below meth c H locs 265 37830 (lw_Z below #[Value.ref b] s) (F0 m 524 ls []) := by
  obtain ⟨hx, hb, hr, hml, hown, -, hX, hbl, hlocks, hgv⟩ := C0
  obtain ⟨hl0, hl1, hl2, hs0, hs19, hs26, hn0, hm0, hm1, hm2, hm3⟩ := hf
  have hbA : ¬ A b := fun h => absurd (hAf b h) (Nat.not_le.mpr hbl)
  have hP := hP.sub (ws' := [((qa 0), .inr (9, [.ref (qa 1), .ref (qa 6), .ref (qa 9), .ref (qa 17), .ref (qa 18), .ref (qa 19), .ref (qa 20), .ref (qa 23), .ref (qa 25), .ref (qa 28), .ref (qa 29), .ref (qa 30), .ref (qa 31), .int 0, .int 0, .int 0])), ((qa 30), .inr (2, [.ref (qa 133), .ref (qa 134), .ref (qa 135), .ref (qa 136), .ref (qa 137), .ref (qa 138), .ref (qa 139), .int 0, .int 0, .int 0, .int 0, .int 0])), ((ma 0), .inr (10, [.int 0, .ref (ma 1), .int 0, .int 0, .ref (ma 4), .ref (ma 5), .ref (ma 6), .int 0, .int 0, .ref (ma 9), .ref (ma 10), .ref (ma 11), .ref (ma 12), .int 0, .ref (ma 14), .ref (ma 15), .int 0, .int 0, .ref (ma 18), .ref (ma 19), .ref (ma 20), .ref (ma 21), .ref (ma 22), .int 0, .ref (ma 24), .int 0, .ref (ma 26), .int 0, .int 0, .int 0, .int 0, .ref (ma 31), .ref (ma 32), .ref (ma 33), .ref (ma 34), .ref (ma 35), .int 0, .int 0, .ref (ma 38), .ref (ma 39), .ref (ma 40), .long 0])), ((ma 10), .inl (k 1, 220, .inl (mg 10)))]) [0, 30, 133, 137] rfl
  have hD := hD.sub (ws' := [((qa 0), .inr (9, [.ref (qa 1), .ref (qa 6), .ref (qa 9), .ref (qa 17), .ref (qa 18), .ref (qa 19), .ref (qa 20), .ref (qa 23), .ref (qa 25), .ref (qa 28), .ref (qa 29), .ref (qa 30), .ref (qa 31), .int 0, .int 0, .int 0])), ((qa 30), .inr (2, [.ref (qa 133), .ref (qa 134), .ref (qa 135), .ref (qa 136), .ref (qa 137), .ref (qa 138), .ref (qa 139), .int 0, .int 0, .int 0, .int 0, .int 0])), ((ma 0), .inr (10, [.int 0, .ref (ma 1), .int 0, .int 0, .ref (ma 4), .ref (ma 5), .ref (ma 6), .int 0, .int 0, .ref (ma 9), .ref (ma 10), .ref (ma 11), .ref (ma 12), .int 0, .ref (ma 14), .ref (ma 15), .int 0, .int 0, .ref (ma 18), .ref (ma 19), .ref (ma 20), .ref (ma 21), .ref (ma 22), .int 0, .ref (ma 24), .int 0, .ref (ma 26), .int 0, .int 0, .int 0, .int 0, .ref (ma 31), .ref (ma 32), .ref (ma 33), .ref (ma 34), .ref (ma 35), .int 0, .int 0, .ref (ma 38), .ref (ma 39), .ref (ma 40), .long 0])), ((ma 10), .inl (k 1, 220, .inl (mg 10)))]) [0, 30, 133, 137] (by decide) rfl
  refine lv_aload_n hx hb dL_law_524 rfl (lv_at hl 3 rfl) ?_
  refine lv_aload_n hx hb dL_law_525 rfl (lv_at hl 4 rfl) ?_
  refine lv_iload hx hb dL_law_526 (lv_at hl 0 rfl) ?_
  refine lv_iconst (v := 1) hx hb dL_law_528 (by decide) ?_
  refine lv_iadd hx hb dL_law_529 ?_
  refine p_topI (v := 1) (by decide) ?_
  refine va_sld hx hb hX hbl hbA hS (show ¬ (_ ∨ _) by decide) dL_law_530 ?_
  refine p_topI (v := (xs 1)) rfl ?_
  refine lv_aload_n hx hb dL_law_531 rfl (lv_at hl 4 rfl) ?_
  refine lv_iload hx hb dL_law_532 (lv_at hl 0 rfl) ?_
  refine lv_iconst (v := 2) hx hb dL_law_534 (by decide) ?_
  refine lv_iadd hx hb dL_law_535 ?_
  refine p_topI (v := 2) (by decide) ?_
  refine va_sld hx hb hX hbl hbA hS (show ¬ (_ ∨ _) by decide) dL_law_536 ?_
  refine p_topI (v := (xs 2)) rfl ?_
  refine p_ji (wr := [((ma 0), .inr (10, [.int 0, .ref (ma 1), .int 0, .int 0, .ref (ma 4), .ref (ma 5), .ref (ma 6), .int 0, .int 0, .ref (ma 9), .ref (ma 10), .ref (ma 11), .ref (ma 12), .int 0, .ref (ma 14), .ref (ma 15), .int 0, .int 0, .ref (ma 18), .ref (ma 19), .ref (ma 20), .ref (ma 21), .ref (ma 22), .int 0, .ref (ma 24), .int 0, .ref (ma 26), .int 0, .int 0, .int 0, .int 0, .ref (ma 31), .ref (ma 32), .ref (ma 33), .ref (ma 34), .ref (ma 35), .int 0, .int 0, .ref (ma 38), .ref (ma 39), .ref (ma 40), .long 0])), ((ma 10), .inl (k 1, 220, .inl (mg 10)))]) (va_runV (As := [.int (xs 1), .int (xs 2)]) (rest := []) ⟨hx, hb, hml, hown, hts⟩ (c_near l D k _ qa (xs 1) (xs 2)) (cwV 2 hts lg_19 rfl rfl rfl (by decide +kernel) ⟨Nat.le_of_ble_eq_true rfl, Nat.le_of_ble_eq_true rfl⟩) (pV hK hN hP hD [0, 1] rfl (by decide) rfl 0 rfl rfl) rfl rfl hl.1 rfl (lv_room (Nat.le_of_ble_eq_true rfl)) dL_law_537 ⟨by decide, by decide⟩) hP hD hS hA [0, 1] [2, 3] rfl rfl (by decide) (by decide) (fun rx3 ux1 H locs wx2 hP hD hS => ?_)
  have hx4 : rx3 = (-1) := wx2
  subst hx4
  have hP : va_P D vwCl [((ma 0), .inr (10, [.int 0, .ref (ma 1), .int 0, .int 0, .ref (ma 4), .ref (ma 5), .ref (ma 6), .int 0, .int 0, .ref (ma 9), .ref (ma 10), .ref (ma 11), .ref (ma 12), .int 0, .ref (ma 14), .ref (ma 15), .int 0, .int 0, .ref (ma 18), .ref (ma 19), .ref (ma 20), .ref (ma 21), .ref (ma 22), .int 0, .ref (ma 24), .int 0, .ref (ma 26), .int 0, .int 0, .int 0, .int 0, .ref (ma 31), .ref (ma 32), .ref (ma 33), .ref (ma 34), .ref (ma 35), .int 0, .int 0, .ref (ma 38), .ref (ma 39), .ref (ma 40), .long 0])), ((ma 10), .inl (k 1, 220, .inl (mg 10)))] H := hP
  have hD : va_D A [((ma 0), .inr (10, [.int 0, .ref (ma 1), .int 0, .int 0, .ref (ma 4), .ref (ma 5), .ref (ma 6), .int 0, .int 0, .ref (ma 9), .ref (ma 10), .ref (ma 11), .ref (ma 12), .int 0, .ref (ma 14), .ref (ma 15), .int 0, .int 0, .ref (ma 18), .ref (ma 19), .ref (ma 20), .ref (ma 21), .ref (ma 22), .int 0, .ref (ma 24), .int 0, .ref (ma 26), .int 0, .int 0, .int 0, .int 0, .ref (ma 31), .ref (ma 32), .ref (ma 33), .ref (ma 34), .ref (ma 35), .int 0, .int 0, .ref (ma 38), .ref (ma 39), .ref (ma 40), .long 0])), ((ma 10), .inl (k 1, 220, .inl (mg 10)))] := hD
  refine lv_aload_n hx hb dL_law_540 rfl (lv_at hl 2 rfl) ?_
  refine lv_aload_n hx hb dL_law_541 rfl (lv_at hl 4 rfl) ?_
  refine lv_iload hx hb dL_law_542 (lv_at hl 0 rfl) ?_
  refine lv_iconst (v := 1) hx hb dL_law_544 (by decide) ?_
  refine lv_iadd hx hb dL_law_545 ?_
  refine p_topI (v := 1) (by decide) ?_
  refine va_sld hx hb hX hbl hbA hS (show ¬ (_ ∨ _) by decide) dL_law_546 ?_
  refine p_topI (v := (xs 1)) rfl ?_
  refine lv_aload_n hx hb dL_law_547 rfl (lv_at hl 4 rfl) ?_
  refine lv_iload hx hb dL_law_548 (lv_at hl 0 rfl) ?_
  refine lv_iconst (v := 2) hx hb dL_law_550 (by decide) ?_
  refine lv_iadd hx hb dL_law_551 ?_
  refine p_topI (v := 2) (by decide) ?_
  refine va_sld hx hb hX hbl hbA hS (show ¬ (_ ∨ _) by decide) dL_law_552 ?_
  refine p_topI (v := (xs 2)) rfl ?_
  refine p_ji (wr := []) (va_runV (As := [.int (xs 1), .int (xs 2)]) (rest := [.int (-1)]) ⟨hx, hb, hml, hown, hts⟩ (c_m_near l D k _ ma mg (xs 1) (xs 2) hl0) (cwV 2 hts lg_20 rfl rfl rfl (by decide +kernel) ⟨Nat.le_of_ble_eq_true rfl, Nat.le_of_ble_eq_true rfl⟩) (pV hK hN hP hD [0, 1] rfl (by decide) rfl 0 rfl rfl) rfl rfl hl.1 rfl (lv_room (Nat.le_of_ble_eq_true rfl)) dL_law_553 ⟨by decide, by decide⟩) hP hD hS hA [0, 1] [] rfl rfl (by decide) (by decide) (fun rx7 ux5 H locs wx6 hP hD hS => ?_)
  have hx8 : rx7 = (-1) := wx6
  subst hx8
  have hP : va_P D vwCl [] H := hP
  have hD : va_D A [] := hD
  refine lv_icmp_eq (tgt := 1487) hx hb dL_law_556 (by decide) (fun cx9 => ?_) (fun h9 => absurd (by decide) h9)
  refine lv_iinc (v := 7) (lv' := [(4, .int 7), (3, .ref out), (2, .ref (ma 0)), (1, .ref (qa 0)), (0, .ref b)]) hx hb dL_law_1487 hl (k := 0) rfl (by decide) (by decide) rfl (fun ls hl => ?_)
  refine lv_goto (tgt := 23) hx hb dL_law_1490 (by decide) ?_
  refine lv_iload hx hb dL_law_23 (lv_at hl 0 rfl) ?_
  refine lv_aload_n hx hb dL_law_25 rfl (lv_at hl 4 rfl) ?_
  refine va_slen hx hb hX hbl hbA hS dL_law_26 ?_
  refine p_topI (v := 7) (by decide) ?_
  refine lv_bipush (v := 7) hx hb dL_law_27 (by decide) ?_
  refine lv_isub hx hb dL_law_29 ?_
  refine p_topI (v := 0) (by decide) ?_
  refine lv_icmp_gt (tgt := 1493) hx hb dL_law_30 (by decide) (fun cx10 => ?_) (fun h9 => absurd (by decide) h9)
  refine lv_iconst (v := 1) hx hb dL_law_1493 (by decide) ?_
  refine va_forget (fun q hq => hAf _ (hS.2.2 q hq)) ?_
  refine W.widen (k := 600002) (n := 7302232) (by decide) (by decide) ?_
  exact lw_ret hx hb hr hlocks dL_law_1494
set_option maxHeartbeats 4000000 in
set_option maxRecDepth 100000 in
theorem lc_dig {p : Program} {e : Env} {s : State} {m : MethodId} {below : List Frame} {meth : Method} {c : Code} (l : Launch) {b : Nat} {xs : Nat → Int32} (C0 : lw_At p s m meth c b 7 xs) (hts : ∀ w ∈ p_tbl, w.before #[Value.ref b] s = true) {D : va_G} {k : Nat → ClassId} (hK : va_K D vwCl (pT k) s) (hN : pN s) {A : Nat → Prop} (hA : ∀ q : Nat, s.heap.size ≤ q → A q) (hAf : ∀ q : Nat, A q → s.heap.size ≤ q) (qa ma : Nat → Nat) (gs mg : Nat → Nat → Int32) (out : Nat) (hf : p_mf mg) {H : Heap} {locs : List Loc} {ls : Array Slot} (hP : va_P D vwCl (p_big k qa ma gs mg) H) (hD : va_D A (p_big k qa ma gs mg)) (hS : va_S A s.heap H locs) (hl : lv_has ls 7 [(4, .int 0), (3, .ref out), (2, .ref (ma 0)), (1, .ref (qa 0)), (0, .ref b)]) : W p l e room_1 s m #[Value.ref b] below meth c H locs 265 37830 (lw_Z below #[Value.ref b] s) (F0 m 561 ls []) := by
  obtain ⟨hx, hb, hr, hml, hown, -, hX, hbl, hlocks, hgv⟩ := C0
  obtain ⟨hl0, hl1, hl2, hs0, hs19, hs26, hn0, hm0, hm1, hm2, hm3⟩ := hf
  have hbA : ¬ A b := fun h => absurd (hAf b h) (Nat.not_le.mpr hbl)
  have hP := hP.sub (ws' := [((qa 0), .inr (9, [.ref (qa 1), .ref (qa 6), .ref (qa 9), .ref (qa 17), .ref (qa 18), .ref (qa 19), .ref (qa 20), .ref (qa 23), .ref (qa 25), .ref (qa 28), .ref (qa 29), .ref (qa 30), .ref (qa 31), .int 0, .int 0, .int 0])), ((qa 30), .inr (2, [.ref (qa 133), .ref (qa 134), .ref (qa 135), .ref (qa 136), .ref (qa 137), .ref (qa 138), .ref (qa 139), .int 0, .int 0, .int 0, .int 0, .int 0])), ((ma 0), .inr (10, [.int 0, .ref (ma 1), .int 0, .int 0, .ref (ma 4), .ref (ma 5), .ref (ma 6), .int 0, .int 0, .ref (ma 9), .ref (ma 10), .ref (ma 11), .ref (ma 12), .int 0, .ref (ma 14), .ref (ma 15), .int 0, .int 0, .ref (ma 18), .ref (ma 19), .ref (ma 20), .ref (ma 21), .ref (ma 22), .int 0, .ref (ma 24), .int 0, .ref (ma 26), .int 0, .int 0, .int 0, .int 0, .ref (ma 31), .ref (ma 32), .ref (ma 33), .ref (ma 34), .ref (ma 35), .int 0, .int 0, .ref (ma 38), .ref (ma 39), .ref (ma 40), .long 0])), ((ma 10), .inl (k 1, 220, .inl (mg 10)))]) [0, 30, 133, 137] rfl
  have hD := hD.sub (ws' := [((qa 0), .inr (9, [.ref (qa 1), .ref (qa 6), .ref (qa 9), .ref (qa 17), .ref (qa 18), .ref (qa 19), .ref (qa 20), .ref (qa 23), .ref (qa 25), .ref (qa 28), .ref (qa 29), .ref (qa 30), .ref (qa 31), .int 0, .int 0, .int 0])), ((qa 30), .inr (2, [.ref (qa 133), .ref (qa 134), .ref (qa 135), .ref (qa 136), .ref (qa 137), .ref (qa 138), .ref (qa 139), .int 0, .int 0, .int 0, .int 0, .int 0])), ((ma 0), .inr (10, [.int 0, .ref (ma 1), .int 0, .int 0, .ref (ma 4), .ref (ma 5), .ref (ma 6), .int 0, .int 0, .ref (ma 9), .ref (ma 10), .ref (ma 11), .ref (ma 12), .int 0, .ref (ma 14), .ref (ma 15), .int 0, .int 0, .ref (ma 18), .ref (ma 19), .ref (ma 20), .ref (ma 21), .ref (ma 22), .int 0, .ref (ma 24), .int 0, .ref (ma 26), .int 0, .int 0, .int 0, .int 0, .ref (ma 31), .ref (ma 32), .ref (ma 33), .ref (ma 34), .ref (ma 35), .int 0, .int 0, .ref (ma 38), .ref (ma 39), .ref (ma 40), .long 0])), ((ma 10), .inl (k 1, 220, .inl (mg 10)))]) [0, 30, 133, 137] (by decide) rfl
  refine lv_aload_n hx hb dL_law_561 rfl (lv_at hl 3 rfl) ?_
  refine lv_aload_n hx hb dL_law_562 rfl (lv_at hl 4 rfl) ?_
  refine lv_iload hx hb dL_law_563 (lv_at hl 0 rfl) ?_
  refine lv_iconst (v := 1) hx hb dL_law_565 (by decide) ?_
  refine lv_iadd hx hb dL_law_566 ?_
  refine p_topI (v := 1) (by decide) ?_
  refine va_sld hx hb hX hbl hbA hS (show ¬ (_ ∨ _) by decide) dL_law_567 ?_
  refine p_topI (v := (xs 1)) rfl ?_
  refine lv_aload_n hx hb dL_law_568 rfl (lv_at hl 4 rfl) ?_
  refine lv_iload hx hb dL_law_569 (lv_at hl 0 rfl) ?_
  refine lv_iconst (v := 2) hx hb dL_law_571 (by decide) ?_
  refine lv_iadd hx hb dL_law_572 ?_
  refine p_topI (v := 2) (by decide) ?_
  refine va_sld hx hb hX hbl hbA hS (show ¬ (_ ∨ _) by decide) dL_law_573 ?_
  refine p_topI (v := (xs 2)) rfl ?_
  refine p_ji (wr := [((ma 0), .inr (10, [.int 0, .ref (ma 1), .int 0, .int 0, .ref (ma 4), .ref (ma 5), .ref (ma 6), .int 0, .int 0, .ref (ma 9), .ref (ma 10), .ref (ma 11), .ref (ma 12), .int 0, .ref (ma 14), .ref (ma 15), .int 0, .int 0, .ref (ma 18), .ref (ma 19), .ref (ma 20), .ref (ma 21), .ref (ma 22), .int 0, .ref (ma 24), .int 0, .ref (ma 26), .int 0, .int 0, .int 0, .int 0, .ref (ma 31), .ref (ma 32), .ref (ma 33), .ref (ma 34), .ref (ma 35), .int 0, .int 0, .ref (ma 38), .ref (ma 39), .ref (ma 40), .long 0])), ((ma 10), .inl (k 1, 220, .inl (mg 10)))]) (va_runV (As := [.int (xs 1), .int (xs 2)]) (rest := []) ⟨hx, hb, hml, hown, hts⟩ (c_dig l D k _ qa (xs 1) (xs 2)) (cwV 2 hts lg_21 rfl rfl rfl (by decide +kernel) ⟨Nat.le_of_ble_eq_true rfl, Nat.le_of_ble_eq_true rfl⟩) (pV hK hN hP hD [0, 1] rfl (by decide) rfl 0 rfl rfl) rfl rfl hl.1 rfl (lv_room (Nat.le_of_ble_eq_true rfl)) dL_law_574 ⟨by decide, by decide⟩) hP hD hS hA [0, 1] [2, 3] rfl rfl (by decide) (by decide) (fun rx3 ux1 H locs wx2 hP hD hS => ?_)
  have hx4 : rx3 = (-1) := wx2
  subst hx4
  have hP : va_P D vwCl [((ma 0), .inr (10, [.int 0, .ref (ma 1), .int 0, .int 0, .ref (ma 4), .ref (ma 5), .ref (ma 6), .int 0, .int 0, .ref (ma 9), .ref (ma 10), .ref (ma 11), .ref (ma 12), .int 0, .ref (ma 14), .ref (ma 15), .int 0, .int 0, .ref (ma 18), .ref (ma 19), .ref (ma 20), .ref (ma 21), .ref (ma 22), .int 0, .ref (ma 24), .int 0, .ref (ma 26), .int 0, .int 0, .int 0, .int 0, .ref (ma 31), .ref (ma 32), .ref (ma 33), .ref (ma 34), .ref (ma 35), .int 0, .int 0, .ref (ma 38), .ref (ma 39), .ref (ma 40), .long 0])), ((ma 10), .inl (k 1, 220, .inl (mg 10)))] H := hP
  have hD : va_D A [((ma 0), .inr (10, [.int 0, .ref (ma 1), .int 0, .int 0, .ref (ma 4), .ref (ma 5), .ref (ma 6), .int 0, .int 0, .ref (ma 9), .ref (ma 10), .ref (ma 11), .ref (ma 12), .int 0, .ref (ma 14), .ref (ma 15), .int 0, .int 0, .ref (ma 18), .ref (ma 19), .ref (ma 20), .ref (ma 21), .ref (ma 22), .int 0, .ref (ma 24), .int 0, .ref (ma 26), .int 0, .int 0, .int 0, .int 0, .ref (ma 31), .ref (ma 32), .ref (ma 33), .ref (ma 34), .ref (ma 35), .int 0, .int 0, .ref (ma 38), .ref (ma 39), .ref (ma 40), .long 0])), ((ma 10), .inl (k 1, 220, .inl (mg 10)))] := hD
  refine lv_aload_n hx hb dL_law_577 rfl (lv_at hl 2 rfl) ?_
  refine lv_aload_n hx hb dL_law_578 rfl (lv_at hl 4 rfl) ?_
  refine lv_iload hx hb dL_law_579 (lv_at hl 0 rfl) ?_
  refine lv_iconst (v := 1) hx hb dL_law_581 (by decide) ?_
  refine lv_iadd hx hb dL_law_582 ?_
  refine p_topI (v := 1) (by decide) ?_
  refine va_sld hx hb hX hbl hbA hS (show ¬ (_ ∨ _) by decide) dL_law_583 ?_
  refine p_topI (v := (xs 1)) rfl ?_
  refine lv_aload_n hx hb dL_law_584 rfl (lv_at hl 4 rfl) ?_
  refine lv_iload hx hb dL_law_585 (lv_at hl 0 rfl) ?_
  refine lv_iconst (v := 2) hx hb dL_law_587 (by decide) ?_
  refine lv_iadd hx hb dL_law_588 ?_
  refine p_topI (v := 2) (by decide) ?_
  refine va_sld hx hb hX hbl hbA hS (show ¬ (_ ∨ _) by decide) dL_law_589 ?_
  refine p_topI (v := (xs 2)) rfl ?_
  refine p_ji (wr := []) (va_runV (As := [.int (xs 1), .int (xs 2)]) (rest := [.int (-1)]) ⟨hx, hb, hml, hown, hts⟩ (c_m_dig l D k _ ma mg (xs 1) (xs 2) hl0) (cwV 2 hts lg_22 rfl rfl rfl (by decide +kernel) ⟨Nat.le_of_ble_eq_true rfl, Nat.le_of_ble_eq_true rfl⟩) (pV hK hN hP hD [0, 1] rfl (by decide) rfl 0 rfl rfl) rfl rfl hl.1 rfl (lv_room (Nat.le_of_ble_eq_true rfl)) dL_law_590 ⟨by decide, by decide⟩) hP hD hS hA [0, 1] [] rfl rfl (by decide) (by decide) (fun rx7 ux5 H locs wx6 hP hD hS => ?_)
  have hx8 : rx7 = (-1) := wx6
  subst hx8
  have hP : va_P D vwCl [] H := hP
  have hD : va_D A [] := hD
  refine lv_icmp_eq (tgt := 1487) hx hb dL_law_593 (by decide) (fun cx9 => ?_) (fun h9 => absurd (by decide) h9)
  refine lv_iinc (v := 7) (lv' := [(4, .int 7), (3, .ref out), (2, .ref (ma 0)), (1, .ref (qa 0)), (0, .ref b)]) hx hb dL_law_1487 hl (k := 0) rfl (by decide) (by decide) rfl (fun ls hl => ?_)
  refine lv_goto (tgt := 23) hx hb dL_law_1490 (by decide) ?_
  refine lv_iload hx hb dL_law_23 (lv_at hl 0 rfl) ?_
  refine lv_aload_n hx hb dL_law_25 rfl (lv_at hl 4 rfl) ?_
  refine va_slen hx hb hX hbl hbA hS dL_law_26 ?_
  refine p_topI (v := 7) (by decide) ?_
  refine lv_bipush (v := 7) hx hb dL_law_27 (by decide) ?_
  refine lv_isub hx hb dL_law_29 ?_
  refine p_topI (v := 0) (by decide) ?_
  refine lv_icmp_gt (tgt := 1493) hx hb dL_law_30 (by decide) (fun cx10 => ?_) (fun h9 => absurd (by decide) h9)
  refine lv_iconst (v := 1) hx hb dL_law_1493 (by decide) ?_
  refine va_forget (fun q hq => hAf _ (hS.2.2 q hq)) ?_
  refine W.widen (k := 600002) (n := 7302232) (by decide) (by decide) ?_
  exact lw_ret hx hb hr hlocks dL_law_1494
set_option maxHeartbeats 4000000 in
set_option maxRecDepth 100000 in
theorem lc_may {p : Program} {e : Env} {s : State} {m : MethodId} {below : List Frame} {meth : Method} {c : Code} (l : Launch) {b : Nat} {xs : Nat → Int32} (C0 : lw_At p s m meth c b 7 xs) (hts : ∀ w ∈ p_tbl, w.before #[Value.ref b] s = true) {D : va_G} {k : Nat → ClassId} (hK : va_K D vwCl (pT k) s) (hN : pN s) {A : Nat → Prop} (hA : ∀ q : Nat, s.heap.size ≤ q → A q) (hAf : ∀ q : Nat, A q → s.heap.size ≤ q) (qa ma : Nat → Nat) (gs mg : Nat → Nat → Int32) (out : Nat) (hf : p_mf mg) {H : Heap} {locs : List Loc} {ls : Array Slot} (hP : va_P D vwCl (p_big k qa ma gs mg) H) (hD : va_D A (p_big k qa ma gs mg)) (hS : va_S A s.heap H locs) (hl : lv_has ls 7 [(4, .int 0), (3, .ref out), (2, .ref (ma 0)), (1, .ref (qa 0)), (0, .ref b)]) : W p l e room_1 s m #[Value.ref b] below meth c H locs 265 37830 (lw_Z below #[Value.ref b] s) (F0 m 598 ls []) := by
  obtain ⟨hx, hb, hr, hml, hown, -, hX, hbl, hlocks, hgv⟩ := C0
  obtain ⟨hl0, hl1, hl2, hs0, hs19, hs26, hn0, hm0, hm1, hm2, hm3⟩ := hf
  have hbA : ¬ A b := fun h => absurd (hAf b h) (Nat.not_le.mpr hbl)
  have hP := hP.sub (ws' := [((qa 0), .inr (9, [.ref (qa 1), .ref (qa 6), .ref (qa 9), .ref (qa 17), .ref (qa 18), .ref (qa 19), .ref (qa 20), .ref (qa 23), .ref (qa 25), .ref (qa 28), .ref (qa 29), .ref (qa 30), .ref (qa 31), .int 0, .int 0, .int 0])), ((qa 30), .inr (2, [.ref (qa 133), .ref (qa 134), .ref (qa 135), .ref (qa 136), .ref (qa 137), .ref (qa 138), .ref (qa 139), .int 0, .int 0, .int 0, .int 0, .int 0])), ((ma 0), .inr (10, [.int 0, .ref (ma 1), .int 0, .int 0, .ref (ma 4), .ref (ma 5), .ref (ma 6), .int 0, .int 0, .ref (ma 9), .ref (ma 10), .ref (ma 11), .ref (ma 12), .int 0, .ref (ma 14), .ref (ma 15), .int 0, .int 0, .ref (ma 18), .ref (ma 19), .ref (ma 20), .ref (ma 21), .ref (ma 22), .int 0, .ref (ma 24), .int 0, .ref (ma 26), .int 0, .int 0, .int 0, .int 0, .ref (ma 31), .ref (ma 32), .ref (ma 33), .ref (ma 34), .ref (ma 35), .int 0, .int 0, .ref (ma 38), .ref (ma 39), .ref (ma 40), .long 0])), ((ma 10), .inl (k 1, 220, .inl (mg 10)))]) [0, 30, 133, 137] rfl
  have hD := hD.sub (ws' := [((qa 0), .inr (9, [.ref (qa 1), .ref (qa 6), .ref (qa 9), .ref (qa 17), .ref (qa 18), .ref (qa 19), .ref (qa 20), .ref (qa 23), .ref (qa 25), .ref (qa 28), .ref (qa 29), .ref (qa 30), .ref (qa 31), .int 0, .int 0, .int 0])), ((qa 30), .inr (2, [.ref (qa 133), .ref (qa 134), .ref (qa 135), .ref (qa 136), .ref (qa 137), .ref (qa 138), .ref (qa 139), .int 0, .int 0, .int 0, .int 0, .int 0])), ((ma 0), .inr (10, [.int 0, .ref (ma 1), .int 0, .int 0, .ref (ma 4), .ref (ma 5), .ref (ma 6), .int 0, .int 0, .ref (ma 9), .ref (ma 10), .ref (ma 11), .ref (ma 12), .int 0, .ref (ma 14), .ref (ma 15), .int 0, .int 0, .ref (ma 18), .ref (ma 19), .ref (ma 20), .ref (ma 21), .ref (ma 22), .int 0, .ref (ma 24), .int 0, .ref (ma 26), .int 0, .int 0, .int 0, .int 0, .ref (ma 31), .ref (ma 32), .ref (ma 33), .ref (ma 34), .ref (ma 35), .int 0, .int 0, .ref (ma 38), .ref (ma 39), .ref (ma 40), .long 0])), ((ma 10), .inl (k 1, 220, .inl (mg 10)))]) [0, 30, 133, 137] (by decide) rfl
  refine lv_aload_n hx hb dL_law_598 rfl (lv_at hl 3 rfl) ?_
  refine lv_aload_n hx hb dL_law_599 rfl (lv_at hl 4 rfl) ?_
  refine lv_iload hx hb dL_law_600 (lv_at hl 0 rfl) ?_
  refine lv_iconst (v := 1) hx hb dL_law_602 (by decide) ?_
  refine lv_iadd hx hb dL_law_603 ?_
  refine p_topI (v := 1) (by decide) ?_
  refine va_sld hx hb hX hbl hbA hS (show ¬ (_ ∨ _) by decide) dL_law_604 ?_
  refine p_topI (v := (xs 1)) rfl ?_
  refine p_ji (wr := [((ma 0), .inr (10, [.int 0, .ref (ma 1), .int 0, .int 0, .ref (ma 4), .ref (ma 5), .ref (ma 6), .int 0, .int 0, .ref (ma 9), .ref (ma 10), .ref (ma 11), .ref (ma 12), .int 0, .ref (ma 14), .ref (ma 15), .int 0, .int 0, .ref (ma 18), .ref (ma 19), .ref (ma 20), .ref (ma 21), .ref (ma 22), .int 0, .ref (ma 24), .int 0, .ref (ma 26), .int 0, .int 0, .int 0, .int 0, .ref (ma 31), .ref (ma 32), .ref (ma 33), .ref (ma 34), .ref (ma 35), .int 0, .int 0, .ref (ma 38), .ref (ma 39), .ref (ma 40), .long 0])), ((ma 10), .inl (k 1, 220, .inl (mg 10)))]) (va_runV (As := [.int (xs 1)]) (rest := []) ⟨hx, hb, hml, hown, hts⟩ (c_may l D k _ qa (xs 1)) (cwV 1 hts lg_23 rfl rfl rfl (by decide +kernel) ⟨Nat.le_of_ble_eq_true rfl, Nat.le_of_ble_eq_true rfl⟩) (pV hK hN hP hD [0, 1] rfl (by decide) rfl 0 rfl rfl) rfl rfl hl.1 rfl (lv_room (Nat.le_of_ble_eq_true rfl)) dL_law_605 ⟨by decide, by decide⟩) hP hD hS hA [0, 1] [2, 3] rfl rfl (by decide) (by decide) (fun rx3 ux1 H locs wx2 hP hD hS => ?_)
  have hx4 : rx3 = (-1) := wx2
  subst hx4
  have hP : va_P D vwCl [((ma 0), .inr (10, [.int 0, .ref (ma 1), .int 0, .int 0, .ref (ma 4), .ref (ma 5), .ref (ma 6), .int 0, .int 0, .ref (ma 9), .ref (ma 10), .ref (ma 11), .ref (ma 12), .int 0, .ref (ma 14), .ref (ma 15), .int 0, .int 0, .ref (ma 18), .ref (ma 19), .ref (ma 20), .ref (ma 21), .ref (ma 22), .int 0, .ref (ma 24), .int 0, .ref (ma 26), .int 0, .int 0, .int 0, .int 0, .ref (ma 31), .ref (ma 32), .ref (ma 33), .ref (ma 34), .ref (ma 35), .int 0, .int 0, .ref (ma 38), .ref (ma 39), .ref (ma 40), .long 0])), ((ma 10), .inl (k 1, 220, .inl (mg 10)))] H := hP
  have hD : va_D A [((ma 0), .inr (10, [.int 0, .ref (ma 1), .int 0, .int 0, .ref (ma 4), .ref (ma 5), .ref (ma 6), .int 0, .int 0, .ref (ma 9), .ref (ma 10), .ref (ma 11), .ref (ma 12), .int 0, .ref (ma 14), .ref (ma 15), .int 0, .int 0, .ref (ma 18), .ref (ma 19), .ref (ma 20), .ref (ma 21), .ref (ma 22), .int 0, .ref (ma 24), .int 0, .ref (ma 26), .int 0, .int 0, .int 0, .int 0, .ref (ma 31), .ref (ma 32), .ref (ma 33), .ref (ma 34), .ref (ma 35), .int 0, .int 0, .ref (ma 38), .ref (ma 39), .ref (ma 40), .long 0])), ((ma 10), .inl (k 1, 220, .inl (mg 10)))] := hD
  refine lv_aload_n hx hb dL_law_608 rfl (lv_at hl 2 rfl) ?_
  refine lv_aload_n hx hb dL_law_609 rfl (lv_at hl 4 rfl) ?_
  refine lv_iload hx hb dL_law_610 (lv_at hl 0 rfl) ?_
  refine lv_iconst (v := 1) hx hb dL_law_612 (by decide) ?_
  refine lv_iadd hx hb dL_law_613 ?_
  refine p_topI (v := 1) (by decide) ?_
  refine va_sld hx hb hX hbl hbA hS (show ¬ (_ ∨ _) by decide) dL_law_614 ?_
  refine p_topI (v := (xs 1)) rfl ?_
  refine p_ji (wr := []) (va_runV (As := [.int (xs 1)]) (rest := [.int (-1)]) ⟨hx, hb, hml, hown, hts⟩ (c_m_may l D k _ ma mg (xs 1) hl0) (cwV 1 hts lg_24 rfl rfl rfl (by decide +kernel) ⟨Nat.le_of_ble_eq_true rfl, Nat.le_of_ble_eq_true rfl⟩) (pV hK hN hP hD [0, 1] rfl (by decide) rfl 0 rfl rfl) rfl rfl hl.1 rfl (lv_room (Nat.le_of_ble_eq_true rfl)) dL_law_615 ⟨by decide, by decide⟩) hP hD hS hA [0, 1] [] rfl rfl (by decide) (by decide) (fun rx7 ux5 H locs wx6 hP hD hS => ?_)
  have hx8 : rx7 = (-1) := wx6
  subst hx8
  have hP : va_P D vwCl [] H := hP
  have hD : va_D A [] := hD
  refine lv_icmp_eq (tgt := 1487) hx hb dL_law_618 (by decide) (fun cx9 => ?_) (fun h9 => absurd (by decide) h9)
  refine lv_iinc (v := 7) (lv' := [(4, .int 7), (3, .ref out), (2, .ref (ma 0)), (1, .ref (qa 0)), (0, .ref b)]) hx hb dL_law_1487 hl (k := 0) rfl (by decide) (by decide) rfl (fun ls hl => ?_)
  refine lv_goto (tgt := 23) hx hb dL_law_1490 (by decide) ?_
  refine lv_iload hx hb dL_law_23 (lv_at hl 0 rfl) ?_
  refine lv_aload_n hx hb dL_law_25 rfl (lv_at hl 4 rfl) ?_
  refine va_slen hx hb hX hbl hbA hS dL_law_26 ?_
  refine p_topI (v := 7) (by decide) ?_
  refine lv_bipush (v := 7) hx hb dL_law_27 (by decide) ?_
  refine lv_isub hx hb dL_law_29 ?_
  refine p_topI (v := 0) (by decide) ?_
  refine lv_icmp_gt (tgt := 1493) hx hb dL_law_30 (by decide) (fun cx10 => ?_) (fun h9 => absurd (by decide) h9)
  refine lv_iconst (v := 1) hx hb dL_law_1493 (by decide) ?_
  refine va_forget (fun q hq => hAf _ (hS.2.2 q hq)) ?_
  refine W.widen (k := 600002) (n := 7302232) (by decide) (by decide) ?_
  exact lw_ret hx hb hr hlocks dL_law_1494
set_option maxHeartbeats 4000000 in
set_option maxRecDepth 100000 in
theorem lc_ends {p : Program} {e : Env} {s : State} {m : MethodId} {below : List Frame} {meth : Method} {c : Code} (l : Launch) {b : Nat} {xs : Nat → Int32} (C0 : lw_At p s m meth c b 7 xs) (hts : ∀ w ∈ p_tbl, w.before #[Value.ref b] s = true) {D : va_G} {k : Nat → ClassId} (hK : va_K D vwCl (pT k) s) (hN : pN s) {A : Nat → Prop} (hA : ∀ q : Nat, s.heap.size ≤ q → A q) (hAf : ∀ q : Nat, A q → s.heap.size ≤ q) (qa ma : Nat → Nat) (gs mg : Nat → Nat → Int32) (out : Nat) (hf : p_mf mg) {H : Heap} {locs : List Loc} {ls : Array Slot} (hP : va_P D vwCl (p_big k qa ma gs mg) H) (hD : va_D A (p_big k qa ma gs mg)) (hS : va_S A s.heap H locs) (hl : lv_has ls 7 [(4, .int 0), (3, .ref out), (2, .ref (ma 0)), (1, .ref (qa 0)), (0, .ref b)]) : W p l e room_1 s m #[Value.ref b] below meth c H locs 265 37830 (lw_Z below #[Value.ref b] s) (F0 m 623 ls []) := by
  obtain ⟨hx, hb, hr, hml, hown, -, hX, hbl, hlocks, hgv⟩ := C0
  obtain ⟨hl0, hl1, hl2, hs0, hs19, hs26, hn0, hm0, hm1, hm2, hm3⟩ := hf
  have hbA : ¬ A b := fun h => absurd (hAf b h) (Nat.not_le.mpr hbl)
  have hP := hP.sub (ws' := [((qa 0), .inr (9, [.ref (qa 1), .ref (qa 6), .ref (qa 9), .ref (qa 17), .ref (qa 18), .ref (qa 19), .ref (qa 20), .ref (qa 23), .ref (qa 25), .ref (qa 28), .ref (qa 29), .ref (qa 30), .ref (qa 31), .int 0, .int 0, .int 0])), ((qa 30), .inr (2, [.ref (qa 133), .ref (qa 134), .ref (qa 135), .ref (qa 136), .ref (qa 137), .ref (qa 138), .ref (qa 139), .int 0, .int 0, .int 0, .int 0, .int 0])), ((ma 0), .inr (10, [.int 0, .ref (ma 1), .int 0, .int 0, .ref (ma 4), .ref (ma 5), .ref (ma 6), .int 0, .int 0, .ref (ma 9), .ref (ma 10), .ref (ma 11), .ref (ma 12), .int 0, .ref (ma 14), .ref (ma 15), .int 0, .int 0, .ref (ma 18), .ref (ma 19), .ref (ma 20), .ref (ma 21), .ref (ma 22), .int 0, .ref (ma 24), .int 0, .ref (ma 26), .int 0, .int 0, .int 0, .int 0, .ref (ma 31), .ref (ma 32), .ref (ma 33), .ref (ma 34), .ref (ma 35), .int 0, .int 0, .ref (ma 38), .ref (ma 39), .ref (ma 40), .long 0])), ((ma 10), .inl (k 1, 220, .inl (mg 10))), ((ma 22), .inl (k 1, 1320, .inl (mg 22)))]) [0, 30, 133, 137, 141] rfl
  have hD := hD.sub (ws' := [((qa 0), .inr (9, [.ref (qa 1), .ref (qa 6), .ref (qa 9), .ref (qa 17), .ref (qa 18), .ref (qa 19), .ref (qa 20), .ref (qa 23), .ref (qa 25), .ref (qa 28), .ref (qa 29), .ref (qa 30), .ref (qa 31), .int 0, .int 0, .int 0])), ((qa 30), .inr (2, [.ref (qa 133), .ref (qa 134), .ref (qa 135), .ref (qa 136), .ref (qa 137), .ref (qa 138), .ref (qa 139), .int 0, .int 0, .int 0, .int 0, .int 0])), ((ma 0), .inr (10, [.int 0, .ref (ma 1), .int 0, .int 0, .ref (ma 4), .ref (ma 5), .ref (ma 6), .int 0, .int 0, .ref (ma 9), .ref (ma 10), .ref (ma 11), .ref (ma 12), .int 0, .ref (ma 14), .ref (ma 15), .int 0, .int 0, .ref (ma 18), .ref (ma 19), .ref (ma 20), .ref (ma 21), .ref (ma 22), .int 0, .ref (ma 24), .int 0, .ref (ma 26), .int 0, .int 0, .int 0, .int 0, .ref (ma 31), .ref (ma 32), .ref (ma 33), .ref (ma 34), .ref (ma 35), .int 0, .int 0, .ref (ma 38), .ref (ma 39), .ref (ma 40), .long 0])), ((ma 10), .inl (k 1, 220, .inl (mg 10))), ((ma 22), .inl (k 1, 1320, .inl (mg 22)))]) [0, 30, 133, 137, 141] (by decide) rfl
  refine lv_aload_n hx hb dL_law_623 rfl (lv_at hl 3 rfl) ?_
  refine p_ji (wr := [((ma 0), .inr (10, [.int 0, .ref (ma 1), .int 0, .int 0, .ref (ma 4), .ref (ma 5), .ref (ma 6), .int 0, .int 0, .ref (ma 9), .ref (ma 10), .ref (ma 11), .ref (ma 12), .int 0, .ref (ma 14), .ref (ma 15), .int 0, .int 0, .ref (ma 18), .ref (ma 19), .ref (ma 20), .ref (ma 21), .ref (ma 22), .int 0, .ref (ma 24), .int 0, .ref (ma 26), .int 0, .int 0, .int 0, .int 0, .ref (ma 31), .ref (ma 32), .ref (ma 33), .ref (ma 34), .ref (ma 35), .int 0, .int 0, .ref (ma 38), .ref (ma 39), .ref (ma 40), .long 0])), ((ma 10), .inl (k 1, 220, .inl (mg 10))), ((ma 22), .inl (k 1, 1320, .inl (mg 22)))]) (va_runV (As := []) (rest := []) ⟨hx, hb, hml, hown, hts⟩ (c_ends l D k _ qa) (cwV 0 hts lg_25 rfl rfl rfl (by decide +kernel) ⟨Nat.le_of_ble_eq_true rfl, Nat.le_of_ble_eq_true rfl⟩) (pV hK hN hP hD [0, 1] rfl (by decide) rfl 0 rfl rfl) rfl rfl hl.1 rfl (lv_room (Nat.le_of_ble_eq_true rfl)) dL_law_624 ⟨by decide, by decide⟩) hP hD hS hA [0, 1] [2, 3, 4] rfl rfl (by decide) (by decide) (fun rx3 ux1 H locs wx2 hP hD hS => ?_)
  have hx4 : rx3 = 0 := wx2
  subst hx4
  have hP : va_P D vwCl [((ma 0), .inr (10, [.int 0, .ref (ma 1), .int 0, .int 0, .ref (ma 4), .ref (ma 5), .ref (ma 6), .int 0, .int 0, .ref (ma 9), .ref (ma 10), .ref (ma 11), .ref (ma 12), .int 0, .ref (ma 14), .ref (ma 15), .int 0, .int 0, .ref (ma 18), .ref (ma 19), .ref (ma 20), .ref (ma 21), .ref (ma 22), .int 0, .ref (ma 24), .int 0, .ref (ma 26), .int 0, .int 0, .int 0, .int 0, .ref (ma 31), .ref (ma 32), .ref (ma 33), .ref (ma 34), .ref (ma 35), .int 0, .int 0, .ref (ma 38), .ref (ma 39), .ref (ma 40), .long 0])), ((ma 10), .inl (k 1, 220, .inl (mg 10))), ((ma 22), .inl (k 1, 1320, .inl (mg 22)))] H := hP
  have hD : va_D A [((ma 0), .inr (10, [.int 0, .ref (ma 1), .int 0, .int 0, .ref (ma 4), .ref (ma 5), .ref (ma 6), .int 0, .int 0, .ref (ma 9), .ref (ma 10), .ref (ma 11), .ref (ma 12), .int 0, .ref (ma 14), .ref (ma 15), .int 0, .int 0, .ref (ma 18), .ref (ma 19), .ref (ma 20), .ref (ma 21), .ref (ma 22), .int 0, .ref (ma 24), .int 0, .ref (ma 26), .int 0, .int 0, .int 0, .int 0, .ref (ma 31), .ref (ma 32), .ref (ma 33), .ref (ma 34), .ref (ma 35), .int 0, .int 0, .ref (ma 38), .ref (ma 39), .ref (ma 40), .long 0])), ((ma 10), .inl (k 1, 220, .inl (mg 10))), ((ma 22), .inl (k 1, 1320, .inl (mg 22)))] := hD
  refine lv_aload_n hx hb dL_law_627 rfl (lv_at hl 2 rfl) ?_
  refine p_ji (wr := []) (va_runV (As := []) (rest := [.int 0]) ⟨hx, hb, hml, hown, hts⟩ (c_m_ends l D k _ ma mg hl0) (cwV 0 hts lg_26 rfl rfl rfl (by decide +kernel) ⟨Nat.le_of_ble_eq_true rfl, Nat.le_of_ble_eq_true rfl⟩) (pV hK hN hP hD [0, 2, 1] rfl (by decide) rfl 0 rfl rfl) rfl rfl hl.1 rfl (lv_room (Nat.le_of_ble_eq_true rfl)) dL_law_628 ⟨by decide, by decide⟩) hP hD hS hA [0, 2, 1] [] rfl rfl (by decide) (by decide) (fun rx7 ux5 H locs wx6 hP hD hS => ?_)
  have hx8 : rx7 = 0 := wx6
  subst hx8
  have hP : va_P D vwCl [] H := hP
  have hD : va_D A [] := hD
  refine lv_icmp_eq (tgt := 1487) hx hb dL_law_631 (by decide) (fun cx9 => ?_) (fun h9 => absurd (by decide) h9)
  refine lv_iinc (v := 7) (lv' := [(4, .int 7), (3, .ref out), (2, .ref (ma 0)), (1, .ref (qa 0)), (0, .ref b)]) hx hb dL_law_1487 hl (k := 0) rfl (by decide) (by decide) rfl (fun ls hl => ?_)
  refine lv_goto (tgt := 23) hx hb dL_law_1490 (by decide) ?_
  refine lv_iload hx hb dL_law_23 (lv_at hl 0 rfl) ?_
  refine lv_aload_n hx hb dL_law_25 rfl (lv_at hl 4 rfl) ?_
  refine va_slen hx hb hX hbl hbA hS dL_law_26 ?_
  refine p_topI (v := 7) (by decide) ?_
  refine lv_bipush (v := 7) hx hb dL_law_27 (by decide) ?_
  refine lv_isub hx hb dL_law_29 ?_
  refine p_topI (v := 0) (by decide) ?_
  refine lv_icmp_gt (tgt := 1493) hx hb dL_law_30 (by decide) (fun cx10 => ?_) (fun h9 => absurd (by decide) h9)
  refine lv_iconst (v := 1) hx hb dL_law_1493 (by decide) ?_
  refine va_forget (fun q hq => hAf _ (hS.2.2 q hq)) ?_
  refine W.widen (k := 600002) (n := 7302232) (by decide) (by decide) ?_
  exact lw_ret hx hb hr hlocks dL_law_1494
set_option maxHeartbeats 4000000 in
set_option maxRecDepth 100000 in
theorem lc_wed {p : Program} {e : Env} {s : State} {m : MethodId} {below : List Frame} {meth : Method} {c : Code} (l : Launch) {b : Nat} {xs : Nat → Int32} (C0 : lw_At p s m meth c b 7 xs) (hts : ∀ w ∈ p_tbl, w.before #[Value.ref b] s = true) {D : va_G} {k : Nat → ClassId} (hK : va_K D vwCl (pT k) s) (hN : pN s) {A : Nat → Prop} (hA : ∀ q : Nat, s.heap.size ≤ q → A q) (hAf : ∀ q : Nat, A q → s.heap.size ≤ q) (qa ma : Nat → Nat) (gs mg : Nat → Nat → Int32) (out : Nat) (hf : p_mf mg) {H : Heap} {locs : List Loc} {ls : Array Slot} (hP : va_P D vwCl (p_big k qa ma gs mg) H) (hD : va_D A (p_big k qa ma gs mg)) (hS : va_S A s.heap H locs) (hl : lv_has ls 7 [(4, .int 0), (3, .ref out), (2, .ref (ma 0)), (1, .ref (qa 0)), (0, .ref b)]) : W p l e room_1 s m #[Value.ref b] below meth c H locs 265 37830 (lw_Z below #[Value.ref b] s) (F0 m 636 ls []) := by
  obtain ⟨hx, hb, hr, hml, hown, -, hX, hbl, hlocks, hgv⟩ := C0
  obtain ⟨hl0, hl1, hl2, hs0, hs19, hs26, hn0, hm0, hm1, hm2, hm3⟩ := hf
  have hbA : ¬ A b := fun h => absurd (hAf b h) (Nat.not_le.mpr hbl)
  have hP := hP.sub (ws' := [((qa 0), .inr (9, [.ref (qa 1), .ref (qa 6), .ref (qa 9), .ref (qa 17), .ref (qa 18), .ref (qa 19), .ref (qa 20), .ref (qa 23), .ref (qa 25), .ref (qa 28), .ref (qa 29), .ref (qa 30), .ref (qa 31), .int 0, .int 0, .int 0])), ((qa 30), .inr (2, [.ref (qa 133), .ref (qa 134), .ref (qa 135), .ref (qa 136), .ref (qa 137), .ref (qa 138), .ref (qa 139), .int 0, .int 0, .int 0, .int 0, .int 0])), ((ma 0), .inr (10, [.int 0, .ref (ma 1), .int 0, .int 0, .ref (ma 4), .ref (ma 5), .ref (ma 6), .int 0, .int 0, .ref (ma 9), .ref (ma 10), .ref (ma 11), .ref (ma 12), .int 0, .ref (ma 14), .ref (ma 15), .int 0, .int 0, .ref (ma 18), .ref (ma 19), .ref (ma 20), .ref (ma 21), .ref (ma 22), .int 0, .ref (ma 24), .int 0, .ref (ma 26), .int 0, .int 0, .int 0, .int 0, .ref (ma 31), .ref (ma 32), .ref (ma 33), .ref (ma 34), .ref (ma 35), .int 0, .int 0, .ref (ma 38), .ref (ma 39), .ref (ma 40), .long 0])), ((ma 10), .inl (k 1, 220, .inl (mg 10)))]) [0, 30, 133, 137] rfl
  have hD := hD.sub (ws' := [((qa 0), .inr (9, [.ref (qa 1), .ref (qa 6), .ref (qa 9), .ref (qa 17), .ref (qa 18), .ref (qa 19), .ref (qa 20), .ref (qa 23), .ref (qa 25), .ref (qa 28), .ref (qa 29), .ref (qa 30), .ref (qa 31), .int 0, .int 0, .int 0])), ((qa 30), .inr (2, [.ref (qa 133), .ref (qa 134), .ref (qa 135), .ref (qa 136), .ref (qa 137), .ref (qa 138), .ref (qa 139), .int 0, .int 0, .int 0, .int 0, .int 0])), ((ma 0), .inr (10, [.int 0, .ref (ma 1), .int 0, .int 0, .ref (ma 4), .ref (ma 5), .ref (ma 6), .int 0, .int 0, .ref (ma 9), .ref (ma 10), .ref (ma 11), .ref (ma 12), .int 0, .ref (ma 14), .ref (ma 15), .int 0, .int 0, .ref (ma 18), .ref (ma 19), .ref (ma 20), .ref (ma 21), .ref (ma 22), .int 0, .ref (ma 24), .int 0, .ref (ma 26), .int 0, .int 0, .int 0, .int 0, .ref (ma 31), .ref (ma 32), .ref (ma 33), .ref (ma 34), .ref (ma 35), .int 0, .int 0, .ref (ma 38), .ref (ma 39), .ref (ma 40), .long 0])), ((ma 10), .inl (k 1, 220, .inl (mg 10)))]) [0, 30, 133, 137] (by decide) rfl
  refine lv_aload_n hx hb dL_law_636 rfl (lv_at hl 3 rfl) ?_
  refine lv_aload_n hx hb dL_law_637 rfl (lv_at hl 4 rfl) ?_
  refine lv_iload hx hb dL_law_638 (lv_at hl 0 rfl) ?_
  refine lv_iconst (v := 1) hx hb dL_law_640 (by decide) ?_
  refine lv_iadd hx hb dL_law_641 ?_
  refine p_topI (v := 1) (by decide) ?_
  refine va_sld hx hb hX hbl hbA hS (show ¬ (_ ∨ _) by decide) dL_law_642 ?_
  refine p_topI (v := (xs 1)) rfl ?_
  refine lv_aload_n hx hb dL_law_643 rfl (lv_at hl 4 rfl) ?_
  refine lv_iload hx hb dL_law_644 (lv_at hl 0 rfl) ?_
  refine lv_iconst (v := 2) hx hb dL_law_646 (by decide) ?_
  refine lv_iadd hx hb dL_law_647 ?_
  refine p_topI (v := 2) (by decide) ?_
  refine va_sld hx hb hX hbl hbA hS (show ¬ (_ ∨ _) by decide) dL_law_648 ?_
  refine p_topI (v := (xs 2)) rfl ?_
  refine p_ji (wr := [((ma 0), .inr (10, [.int 0, .ref (ma 1), .int 0, .int 0, .ref (ma 4), .ref (ma 5), .ref (ma 6), .int 0, .int 0, .ref (ma 9), .ref (ma 10), .ref (ma 11), .ref (ma 12), .int 0, .ref (ma 14), .ref (ma 15), .int 0, .int 0, .ref (ma 18), .ref (ma 19), .ref (ma 20), .ref (ma 21), .ref (ma 22), .int 0, .ref (ma 24), .int 0, .ref (ma 26), .int 0, .int 0, .int 0, .int 0, .ref (ma 31), .ref (ma 32), .ref (ma 33), .ref (ma 34), .ref (ma 35), .int 0, .int 0, .ref (ma 38), .ref (ma 39), .ref (ma 40), .long 0])), ((ma 10), .inl (k 1, 220, .inl (mg 10)))]) (va_runV (As := [.int (xs 1), .int (xs 2)]) (rest := []) ⟨hx, hb, hml, hown, hts⟩ (c_wed l D k _ qa (xs 1) (xs 2)) (cwV 2 hts lg_27 rfl rfl rfl (by decide +kernel) ⟨Nat.le_of_ble_eq_true rfl, Nat.le_of_ble_eq_true rfl⟩) (pV hK hN hP hD [0, 1] rfl (by decide) rfl 0 rfl rfl) rfl rfl hl.1 rfl (lv_room (Nat.le_of_ble_eq_true rfl)) dL_law_649 ⟨by decide, by decide⟩) hP hD hS hA [0, 1] [2, 3] rfl rfl (by decide) (by decide) (fun rx3 ux1 H locs wx2 hP hD hS => ?_)
  have hx4 : rx3 = (-1) := wx2
  subst hx4
  have hP : va_P D vwCl [((ma 0), .inr (10, [.int 0, .ref (ma 1), .int 0, .int 0, .ref (ma 4), .ref (ma 5), .ref (ma 6), .int 0, .int 0, .ref (ma 9), .ref (ma 10), .ref (ma 11), .ref (ma 12), .int 0, .ref (ma 14), .ref (ma 15), .int 0, .int 0, .ref (ma 18), .ref (ma 19), .ref (ma 20), .ref (ma 21), .ref (ma 22), .int 0, .ref (ma 24), .int 0, .ref (ma 26), .int 0, .int 0, .int 0, .int 0, .ref (ma 31), .ref (ma 32), .ref (ma 33), .ref (ma 34), .ref (ma 35), .int 0, .int 0, .ref (ma 38), .ref (ma 39), .ref (ma 40), .long 0])), ((ma 10), .inl (k 1, 220, .inl (mg 10)))] H := hP
  have hD : va_D A [((ma 0), .inr (10, [.int 0, .ref (ma 1), .int 0, .int 0, .ref (ma 4), .ref (ma 5), .ref (ma 6), .int 0, .int 0, .ref (ma 9), .ref (ma 10), .ref (ma 11), .ref (ma 12), .int 0, .ref (ma 14), .ref (ma 15), .int 0, .int 0, .ref (ma 18), .ref (ma 19), .ref (ma 20), .ref (ma 21), .ref (ma 22), .int 0, .ref (ma 24), .int 0, .ref (ma 26), .int 0, .int 0, .int 0, .int 0, .ref (ma 31), .ref (ma 32), .ref (ma 33), .ref (ma 34), .ref (ma 35), .int 0, .int 0, .ref (ma 38), .ref (ma 39), .ref (ma 40), .long 0])), ((ma 10), .inl (k 1, 220, .inl (mg 10)))] := hD
  refine lv_aload_n hx hb dL_law_652 rfl (lv_at hl 2 rfl) ?_
  refine lv_aload_n hx hb dL_law_653 rfl (lv_at hl 4 rfl) ?_
  refine lv_iload hx hb dL_law_654 (lv_at hl 0 rfl) ?_
  refine lv_iconst (v := 1) hx hb dL_law_656 (by decide) ?_
  refine lv_iadd hx hb dL_law_657 ?_
  refine p_topI (v := 1) (by decide) ?_
  refine va_sld hx hb hX hbl hbA hS (show ¬ (_ ∨ _) by decide) dL_law_658 ?_
  refine p_topI (v := (xs 1)) rfl ?_
  refine lv_aload_n hx hb dL_law_659 rfl (lv_at hl 4 rfl) ?_
  refine lv_iload hx hb dL_law_660 (lv_at hl 0 rfl) ?_
  refine lv_iconst (v := 2) hx hb dL_law_662 (by decide) ?_
  refine lv_iadd hx hb dL_law_663 ?_
  refine p_topI (v := 2) (by decide) ?_
  refine va_sld hx hb hX hbl hbA hS (show ¬ (_ ∨ _) by decide) dL_law_664 ?_
  refine p_topI (v := (xs 2)) rfl ?_
  refine p_ji (wr := []) (va_runV (As := [.int (xs 1), .int (xs 2)]) (rest := [.int (-1)]) ⟨hx, hb, hml, hown, hts⟩ (c_m_wed l D k _ ma mg (xs 1) (xs 2) hl0) (cwV 2 hts lg_28 rfl rfl rfl (by decide +kernel) ⟨Nat.le_of_ble_eq_true rfl, Nat.le_of_ble_eq_true rfl⟩) (pV hK hN hP hD [0, 1] rfl (by decide) rfl 0 rfl rfl) rfl rfl hl.1 rfl (lv_room (Nat.le_of_ble_eq_true rfl)) dL_law_665 ⟨by decide, by decide⟩) hP hD hS hA [0, 1] [] rfl rfl (by decide) (by decide) (fun rx7 ux5 H locs wx6 hP hD hS => ?_)
  have hx8 : rx7 = (-1) := wx6
  subst hx8
  have hP : va_P D vwCl [] H := hP
  have hD : va_D A [] := hD
  refine lv_icmp_eq (tgt := 1487) hx hb dL_law_668 (by decide) (fun cx9 => ?_) (fun h9 => absurd (by decide) h9)
  refine lv_iinc (v := 7) (lv' := [(4, .int 7), (3, .ref out), (2, .ref (ma 0)), (1, .ref (qa 0)), (0, .ref b)]) hx hb dL_law_1487 hl (k := 0) rfl (by decide) (by decide) rfl (fun ls hl => ?_)
  refine lv_goto (tgt := 23) hx hb dL_law_1490 (by decide) ?_
  refine lv_iload hx hb dL_law_23 (lv_at hl 0 rfl) ?_
  refine lv_aload_n hx hb dL_law_25 rfl (lv_at hl 4 rfl) ?_
  refine va_slen hx hb hX hbl hbA hS dL_law_26 ?_
  refine p_topI (v := 7) (by decide) ?_
  refine lv_bipush (v := 7) hx hb dL_law_27 (by decide) ?_
  refine lv_isub hx hb dL_law_29 ?_
  refine p_topI (v := 0) (by decide) ?_
  refine lv_icmp_gt (tgt := 1493) hx hb dL_law_30 (by decide) (fun cx10 => ?_) (fun h9 => absurd (by decide) h9)
  refine lv_iconst (v := 1) hx hb dL_law_1493 (by decide) ?_
  refine va_forget (fun q hq => hAf _ (hS.2.2 q hq)) ?_
  refine W.widen (k := 600002) (n := 7302232) (by decide) (by decide) ?_
  exact lw_ret hx hb hr hlocks dL_law_1494
set_option maxHeartbeats 4000000 in
set_option maxRecDepth 100000 in
theorem lc_part {p : Program} {e : Env} {s : State} {m : MethodId} {below : List Frame} {meth : Method} {c : Code} (l : Launch) {b : Nat} {xs : Nat → Int32} (C0 : lw_At p s m meth c b 7 xs) (hts : ∀ w ∈ p_tbl, w.before #[Value.ref b] s = true) {D : va_G} {k : Nat → ClassId} (hK : va_K D vwCl (pT k) s) (hN : pN s) {A : Nat → Prop} (hA : ∀ q : Nat, s.heap.size ≤ q → A q) (hAf : ∀ q : Nat, A q → s.heap.size ≤ q) (qa ma : Nat → Nat) (gs mg : Nat → Nat → Int32) (out : Nat) (hf : p_mf mg) {H : Heap} {locs : List Loc} {ls : Array Slot} (hP : va_P D vwCl (p_big k qa ma gs mg) H) (hD : va_D A (p_big k qa ma gs mg)) (hS : va_S A s.heap H locs) (hl : lv_has ls 7 [(4, .int 0), (3, .ref out), (2, .ref (ma 0)), (1, .ref (qa 0)), (0, .ref b)]) : W p l e room_1 s m #[Value.ref b] below meth c H locs 265 37830 (lw_Z below #[Value.ref b] s) (F0 m 673 ls []) := by
  obtain ⟨hx, hb, hr, hml, hown, -, hX, hbl, hlocks, hgv⟩ := C0
  obtain ⟨hl0, hl1, hl2, hs0, hs19, hs26, hn0, hm0, hm1, hm2, hm3⟩ := hf
  have hbA : ¬ A b := fun h => absurd (hAf b h) (Nat.not_le.mpr hbl)
  have hP := hP.sub (ws' := [((qa 0), .inr (9, [.ref (qa 1), .ref (qa 6), .ref (qa 9), .ref (qa 17), .ref (qa 18), .ref (qa 19), .ref (qa 20), .ref (qa 23), .ref (qa 25), .ref (qa 28), .ref (qa 29), .ref (qa 30), .ref (qa 31), .int 0, .int 0, .int 0])), ((qa 30), .inr (2, [.ref (qa 133), .ref (qa 134), .ref (qa 135), .ref (qa 136), .ref (qa 137), .ref (qa 138), .ref (qa 139), .int 0, .int 0, .int 0, .int 0, .int 0])), ((ma 0), .inr (10, [.int 0, .ref (ma 1), .int 0, .int 0, .ref (ma 4), .ref (ma 5), .ref (ma 6), .int 0, .int 0, .ref (ma 9), .ref (ma 10), .ref (ma 11), .ref (ma 12), .int 0, .ref (ma 14), .ref (ma 15), .int 0, .int 0, .ref (ma 18), .ref (ma 19), .ref (ma 20), .ref (ma 21), .ref (ma 22), .int 0, .ref (ma 24), .int 0, .ref (ma 26), .int 0, .int 0, .int 0, .int 0, .ref (ma 31), .ref (ma 32), .ref (ma 33), .ref (ma 34), .ref (ma 35), .int 0, .int 0, .ref (ma 38), .ref (ma 39), .ref (ma 40), .long 0])), ((ma 10), .inl (k 1, 220, .inl (mg 10)))]) [0, 30, 133, 137] rfl
  have hD := hD.sub (ws' := [((qa 0), .inr (9, [.ref (qa 1), .ref (qa 6), .ref (qa 9), .ref (qa 17), .ref (qa 18), .ref (qa 19), .ref (qa 20), .ref (qa 23), .ref (qa 25), .ref (qa 28), .ref (qa 29), .ref (qa 30), .ref (qa 31), .int 0, .int 0, .int 0])), ((qa 30), .inr (2, [.ref (qa 133), .ref (qa 134), .ref (qa 135), .ref (qa 136), .ref (qa 137), .ref (qa 138), .ref (qa 139), .int 0, .int 0, .int 0, .int 0, .int 0])), ((ma 0), .inr (10, [.int 0, .ref (ma 1), .int 0, .int 0, .ref (ma 4), .ref (ma 5), .ref (ma 6), .int 0, .int 0, .ref (ma 9), .ref (ma 10), .ref (ma 11), .ref (ma 12), .int 0, .ref (ma 14), .ref (ma 15), .int 0, .int 0, .ref (ma 18), .ref (ma 19), .ref (ma 20), .ref (ma 21), .ref (ma 22), .int 0, .ref (ma 24), .int 0, .ref (ma 26), .int 0, .int 0, .int 0, .int 0, .ref (ma 31), .ref (ma 32), .ref (ma 33), .ref (ma 34), .ref (ma 35), .int 0, .int 0, .ref (ma 38), .ref (ma 39), .ref (ma 40), .long 0])), ((ma 10), .inl (k 1, 220, .inl (mg 10)))]) [0, 30, 133, 137] (by decide) rfl
  refine lv_aload_n hx hb dL_law_673 rfl (lv_at hl 3 rfl) ?_
  refine lv_aload_n hx hb dL_law_674 rfl (lv_at hl 4 rfl) ?_
  refine lv_iload hx hb dL_law_675 (lv_at hl 0 rfl) ?_
  refine lv_iconst (v := 1) hx hb dL_law_677 (by decide) ?_
  refine lv_iadd hx hb dL_law_678 ?_
  refine p_topI (v := 1) (by decide) ?_
  refine va_sld hx hb hX hbl hbA hS (show ¬ (_ ∨ _) by decide) dL_law_679 ?_
  refine p_topI (v := (xs 1)) rfl ?_
  refine p_ji (wr := [((ma 0), .inr (10, [.int 0, .ref (ma 1), .int 0, .int 0, .ref (ma 4), .ref (ma 5), .ref (ma 6), .int 0, .int 0, .ref (ma 9), .ref (ma 10), .ref (ma 11), .ref (ma 12), .int 0, .ref (ma 14), .ref (ma 15), .int 0, .int 0, .ref (ma 18), .ref (ma 19), .ref (ma 20), .ref (ma 21), .ref (ma 22), .int 0, .ref (ma 24), .int 0, .ref (ma 26), .int 0, .int 0, .int 0, .int 0, .ref (ma 31), .ref (ma 32), .ref (ma 33), .ref (ma 34), .ref (ma 35), .int 0, .int 0, .ref (ma 38), .ref (ma 39), .ref (ma 40), .long 0])), ((ma 10), .inl (k 1, 220, .inl (mg 10)))]) (va_runV (As := [.int (xs 1)]) (rest := []) ⟨hx, hb, hml, hown, hts⟩ (c_part l D k _ qa (xs 1)) (cwV 1 hts lg_29 rfl rfl rfl (by decide +kernel) ⟨Nat.le_of_ble_eq_true rfl, Nat.le_of_ble_eq_true rfl⟩) (pV hK hN hP hD [0, 1] rfl (by decide) rfl 0 rfl rfl) rfl rfl hl.1 rfl (lv_room (Nat.le_of_ble_eq_true rfl)) dL_law_680 ⟨by decide, by decide⟩) hP hD hS hA [0, 1] [2, 3] rfl rfl (by decide) (by decide) (fun rx3 ux1 H locs wx2 hP hD hS => ?_)
  have hx4 : rx3 = 0 := wx2
  subst hx4
  have hP : va_P D vwCl [((ma 0), .inr (10, [.int 0, .ref (ma 1), .int 0, .int 0, .ref (ma 4), .ref (ma 5), .ref (ma 6), .int 0, .int 0, .ref (ma 9), .ref (ma 10), .ref (ma 11), .ref (ma 12), .int 0, .ref (ma 14), .ref (ma 15), .int 0, .int 0, .ref (ma 18), .ref (ma 19), .ref (ma 20), .ref (ma 21), .ref (ma 22), .int 0, .ref (ma 24), .int 0, .ref (ma 26), .int 0, .int 0, .int 0, .int 0, .ref (ma 31), .ref (ma 32), .ref (ma 33), .ref (ma 34), .ref (ma 35), .int 0, .int 0, .ref (ma 38), .ref (ma 39), .ref (ma 40), .long 0])), ((ma 10), .inl (k 1, 220, .inl (mg 10)))] H := hP
  have hD : va_D A [((ma 0), .inr (10, [.int 0, .ref (ma 1), .int 0, .int 0, .ref (ma 4), .ref (ma 5), .ref (ma 6), .int 0, .int 0, .ref (ma 9), .ref (ma 10), .ref (ma 11), .ref (ma 12), .int 0, .ref (ma 14), .ref (ma 15), .int 0, .int 0, .ref (ma 18), .ref (ma 19), .ref (ma 20), .ref (ma 21), .ref (ma 22), .int 0, .ref (ma 24), .int 0, .ref (ma 26), .int 0, .int 0, .int 0, .int 0, .ref (ma 31), .ref (ma 32), .ref (ma 33), .ref (ma 34), .ref (ma 35), .int 0, .int 0, .ref (ma 38), .ref (ma 39), .ref (ma 40), .long 0])), ((ma 10), .inl (k 1, 220, .inl (mg 10)))] := hD
  refine lv_aload_n hx hb dL_law_683 rfl (lv_at hl 2 rfl) ?_
  refine lv_aload_n hx hb dL_law_684 rfl (lv_at hl 4 rfl) ?_
  refine lv_iload hx hb dL_law_685 (lv_at hl 0 rfl) ?_
  refine lv_iconst (v := 1) hx hb dL_law_687 (by decide) ?_
  refine lv_iadd hx hb dL_law_688 ?_
  refine p_topI (v := 1) (by decide) ?_
  refine va_sld hx hb hX hbl hbA hS (show ¬ (_ ∨ _) by decide) dL_law_689 ?_
  refine p_topI (v := (xs 1)) rfl ?_
  refine p_ji (wr := []) (va_runV (As := [.int (xs 1)]) (rest := [.int 0]) ⟨hx, hb, hml, hown, hts⟩ (c_m_part l D k _ ma mg (xs 1) hl0) (cwV 1 hts lg_30 rfl rfl rfl (by decide +kernel) ⟨Nat.le_of_ble_eq_true rfl, Nat.le_of_ble_eq_true rfl⟩) (pV hK hN hP hD [0, 1] rfl (by decide) rfl 0 rfl rfl) rfl rfl hl.1 rfl (lv_room (Nat.le_of_ble_eq_true rfl)) dL_law_690 ⟨by decide, by decide⟩) hP hD hS hA [0, 1] [] rfl rfl (by decide) (by decide) (fun rx7 ux5 H locs wx6 hP hD hS => ?_)
  have hx8 : rx7 = 0 := wx6
  subst hx8
  have hP : va_P D vwCl [] H := hP
  have hD : va_D A [] := hD
  refine lv_icmp_eq (tgt := 1487) hx hb dL_law_693 (by decide) (fun cx9 => ?_) (fun h9 => absurd (by decide) h9)
  refine lv_iinc (v := 7) (lv' := [(4, .int 7), (3, .ref out), (2, .ref (ma 0)), (1, .ref (qa 0)), (0, .ref b)]) hx hb dL_law_1487 hl (k := 0) rfl (by decide) (by decide) rfl (fun ls hl => ?_)
  refine lv_goto (tgt := 23) hx hb dL_law_1490 (by decide) ?_
  refine lv_iload hx hb dL_law_23 (lv_at hl 0 rfl) ?_
  refine lv_aload_n hx hb dL_law_25 rfl (lv_at hl 4 rfl) ?_
  refine va_slen hx hb hX hbl hbA hS dL_law_26 ?_
  refine p_topI (v := 7) (by decide) ?_
  refine lv_bipush (v := 7) hx hb dL_law_27 (by decide) ?_
  refine lv_isub hx hb dL_law_29 ?_
  refine p_topI (v := 0) (by decide) ?_
  refine lv_icmp_gt (tgt := 1493) hx hb dL_law_30 (by decide) (fun cx10 => ?_) (fun h9 => absurd (by decide) h9)
  refine lv_iconst (v := 1) hx hb dL_law_1493 (by decide) ?_
  refine va_forget (fun q hq => hAf _ (hS.2.2 q hq)) ?_
  refine W.widen (k := 600002) (n := 7302232) (by decide) (by decide) ?_
  exact lw_ret hx hb hr hlocks dL_law_1494
set_option maxHeartbeats 4000000 in
set_option maxRecDepth 100000 in
theorem lc_undo {p : Program} {e : Env} {s : State} {m : MethodId} {below : List Frame} {meth : Method} {c : Code} (l : Launch) {b : Nat} {xs : Nat → Int32} (C0 : lw_At p s m meth c b 7 xs) (hts : ∀ w ∈ p_tbl, w.before #[Value.ref b] s = true) {D : va_G} {k : Nat → ClassId} (hK : va_K D vwCl (pT k) s) (hN : pN s) {A : Nat → Prop} (hA : ∀ q : Nat, s.heap.size ≤ q → A q) (hAf : ∀ q : Nat, A q → s.heap.size ≤ q) (qa ma : Nat → Nat) (gs mg : Nat → Nat → Int32) (out : Nat) (hf : p_mf mg) {H : Heap} {locs : List Loc} {ls : Array Slot} (hP : va_P D vwCl (p_big k qa ma gs mg) H) (hD : va_D A (p_big k qa ma gs mg)) (hS : va_S A s.heap H locs) (hl : lv_has ls 7 [(4, .int 0), (3, .ref out), (2, .ref (ma 0)), (1, .ref (qa 0)), (0, .ref b)]) : W p l e room_1 s m #[Value.ref b] below meth c H locs 265 37830 (lw_Z below #[Value.ref b] s) (F0 m 723 ls []) := by
  obtain ⟨hx, hb, hr, hml, hown, -, hX, hbl, hlocks, hgv⟩ := C0
  obtain ⟨hl0, hl1, hl2, hs0, hs19, hs26, hn0, hm0, hm1, hm2, hm3⟩ := hf
  have hbA : ¬ A b := fun h => absurd (hAf b h) (Nat.not_le.mpr hbl)
  have hP := hP.sub (ws' := [((qa 0), .inr (9, [.ref (qa 1), .ref (qa 6), .ref (qa 9), .ref (qa 17), .ref (qa 18), .ref (qa 19), .ref (qa 20), .ref (qa 23), .ref (qa 25), .ref (qa 28), .ref (qa 29), .ref (qa 30), .ref (qa 31), .int 0, .int 0, .int 0])), ((ma 0), .inr (10, [.int 0, .ref (ma 1), .int 0, .int 0, .ref (ma 4), .ref (ma 5), .ref (ma 6), .int 0, .int 0, .ref (ma 9), .ref (ma 10), .ref (ma 11), .ref (ma 12), .int 0, .ref (ma 14), .ref (ma 15), .int 0, .int 0, .ref (ma 18), .ref (ma 19), .ref (ma 20), .ref (ma 21), .ref (ma 22), .int 0, .ref (ma 24), .int 0, .ref (ma 26), .int 0, .int 0, .int 0, .int 0, .ref (ma 31), .ref (ma 32), .ref (ma 33), .ref (ma 34), .ref (ma 35), .int 0, .int 0, .ref (ma 38), .ref (ma 39), .ref (ma 40), .long 0]))]) [0, 133] rfl
  have hD := hD.sub (ws' := [((qa 0), .inr (9, [.ref (qa 1), .ref (qa 6), .ref (qa 9), .ref (qa 17), .ref (qa 18), .ref (qa 19), .ref (qa 20), .ref (qa 23), .ref (qa 25), .ref (qa 28), .ref (qa 29), .ref (qa 30), .ref (qa 31), .int 0, .int 0, .int 0])), ((ma 0), .inr (10, [.int 0, .ref (ma 1), .int 0, .int 0, .ref (ma 4), .ref (ma 5), .ref (ma 6), .int 0, .int 0, .ref (ma 9), .ref (ma 10), .ref (ma 11), .ref (ma 12), .int 0, .ref (ma 14), .ref (ma 15), .int 0, .int 0, .ref (ma 18), .ref (ma 19), .ref (ma 20), .ref (ma 21), .ref (ma 22), .int 0, .ref (ma 24), .int 0, .ref (ma 26), .int 0, .int 0, .int 0, .int 0, .ref (ma 31), .ref (ma 32), .ref (ma 33), .ref (ma 34), .ref (ma 35), .int 0, .int 0, .ref (ma 38), .ref (ma 39), .ref (ma 40), .long 0]))]) [0, 133] (by decide) rfl
  refine lv_aload_n hx hb dL_law_723 rfl (lv_at hl 3 rfl) ?_
  refine p_ji (wr := [((ma 0), .inr (10, [.int 0, .ref (ma 1), .int 0, .int 0, .ref (ma 4), .ref (ma 5), .ref (ma 6), .int 0, .int 0, .ref (ma 9), .ref (ma 10), .ref (ma 11), .ref (ma 12), .int 0, .ref (ma 14), .ref (ma 15), .int 0, .int 0, .ref (ma 18), .ref (ma 19), .ref (ma 20), .ref (ma 21), .ref (ma 22), .int 0, .ref (ma 24), .int 0, .ref (ma 26), .int 0, .int 0, .int 0, .int 0, .ref (ma 31), .ref (ma 32), .ref (ma 33), .ref (ma 34), .ref (ma 35), .int 0, .int 0, .ref (ma 38), .ref (ma 39), .ref (ma 40), .long 0]))]) (va_runV (As := []) (rest := []) ⟨hx, hb, hml, hown, hts⟩ (c_undo l D k _ qa) (cwV 0 hts lg_37 rfl rfl rfl (by decide +kernel) ⟨Nat.le_of_ble_eq_true rfl, Nat.le_of_ble_eq_true rfl⟩) (pV hK hN hP hD [0] rfl (by decide) rfl 0 rfl rfl) rfl rfl hl.1 rfl (lv_room (Nat.le_of_ble_eq_true rfl)) dL_law_724 ⟨by decide, by decide⟩) hP hD hS hA [0] [1] rfl rfl (by decide) (by decide) (fun rx3 ux1 H locs wx2 hP hD hS => ?_)
  have hx4 : rx3 = 0 := wx2
  subst hx4
  have hP : va_P D vwCl [((ma 0), .inr (10, [.int 0, .ref (ma 1), .int 0, .int 0, .ref (ma 4), .ref (ma 5), .ref (ma 6), .int 0, .int 0, .ref (ma 9), .ref (ma 10), .ref (ma 11), .ref (ma 12), .int 0, .ref (ma 14), .ref (ma 15), .int 0, .int 0, .ref (ma 18), .ref (ma 19), .ref (ma 20), .ref (ma 21), .ref (ma 22), .int 0, .ref (ma 24), .int 0, .ref (ma 26), .int 0, .int 0, .int 0, .int 0, .ref (ma 31), .ref (ma 32), .ref (ma 33), .ref (ma 34), .ref (ma 35), .int 0, .int 0, .ref (ma 38), .ref (ma 39), .ref (ma 40), .long 0]))] H := hP
  have hD : va_D A [((ma 0), .inr (10, [.int 0, .ref (ma 1), .int 0, .int 0, .ref (ma 4), .ref (ma 5), .ref (ma 6), .int 0, .int 0, .ref (ma 9), .ref (ma 10), .ref (ma 11), .ref (ma 12), .int 0, .ref (ma 14), .ref (ma 15), .int 0, .int 0, .ref (ma 18), .ref (ma 19), .ref (ma 20), .ref (ma 21), .ref (ma 22), .int 0, .ref (ma 24), .int 0, .ref (ma 26), .int 0, .int 0, .int 0, .int 0, .ref (ma 31), .ref (ma 32), .ref (ma 33), .ref (ma 34), .ref (ma 35), .int 0, .int 0, .ref (ma 38), .ref (ma 39), .ref (ma 40), .long 0]))] := hD
  refine lv_aload_n hx hb dL_law_727 rfl (lv_at hl 2 rfl) ?_
  refine p_ji (wr := []) (va_runV (As := []) (rest := [.int 0]) ⟨hx, hb, hml, hown, hts⟩ (c_m_undo l D k _ ma) (cwV 0 hts lg_38 rfl rfl rfl (by decide +kernel) ⟨Nat.le_of_ble_eq_true rfl, Nat.le_of_ble_eq_true rfl⟩) (pV hK hN hP hD [0] rfl (by decide) rfl 0 rfl rfl) rfl rfl hl.1 rfl (lv_room (Nat.le_of_ble_eq_true rfl)) dL_law_728 ⟨by decide, by decide⟩) hP hD hS hA [0] [] rfl rfl (by decide) (by decide) (fun rx7 ux5 H locs wx6 hP hD hS => ?_)
  have hx8 : rx7 = 0 := wx6
  subst hx8
  have hP : va_P D vwCl [] H := hP
  have hD : va_D A [] := hD
  refine lv_icmp_eq (tgt := 1487) hx hb dL_law_731 (by decide) (fun cx9 => ?_) (fun h9 => absurd (by decide) h9)
  refine lv_iinc (v := 7) (lv' := [(4, .int 7), (3, .ref out), (2, .ref (ma 0)), (1, .ref (qa 0)), (0, .ref b)]) hx hb dL_law_1487 hl (k := 0) rfl (by decide) (by decide) rfl (fun ls hl => ?_)
  refine lv_goto (tgt := 23) hx hb dL_law_1490 (by decide) ?_
  refine lv_iload hx hb dL_law_23 (lv_at hl 0 rfl) ?_
  refine lv_aload_n hx hb dL_law_25 rfl (lv_at hl 4 rfl) ?_
  refine va_slen hx hb hX hbl hbA hS dL_law_26 ?_
  refine p_topI (v := 7) (by decide) ?_
  refine lv_bipush (v := 7) hx hb dL_law_27 (by decide) ?_
  refine lv_isub hx hb dL_law_29 ?_
  refine p_topI (v := 0) (by decide) ?_
  refine lv_icmp_gt (tgt := 1493) hx hb dL_law_30 (by decide) (fun cx10 => ?_) (fun h9 => absurd (by decide) h9)
  refine lv_iconst (v := 1) hx hb dL_law_1493 (by decide) ?_
  refine va_forget (fun q hq => hAf _ (hS.2.2 q hq)) ?_
  refine W.widen (k := 600002) (n := 7302232) (by decide) (by decide) ?_
  exact lw_ret hx hb hr hlocks dL_law_1494
set_option maxHeartbeats 4000000 in
set_option maxRecDepth 100000 in
theorem lc_judged {p : Program} {e : Env} {s : State} {m : MethodId} {below : List Frame} {meth : Method} {c : Code} (l : Launch) {b : Nat} {xs : Nat → Int32} (C0 : lw_At p s m meth c b 7 xs) (hts : ∀ w ∈ p_tbl, w.before #[Value.ref b] s = true) {D : va_G} {k : Nat → ClassId} (hK : va_K D vwCl (pT k) s) (hN : pN s) {A : Nat → Prop} (hA : ∀ q : Nat, s.heap.size ≤ q → A q) (hAf : ∀ q : Nat, A q → s.heap.size ≤ q) (qa ma : Nat → Nat) (gs mg : Nat → Nat → Int32) (out : Nat) (hf : p_mf mg) {H : Heap} {locs : List Loc} {ls : Array Slot} (hP : va_P D vwCl (p_big k qa ma gs mg) H) (hD : va_D A (p_big k qa ma gs mg)) (hS : va_S A s.heap H locs) (hl : lv_has ls 7 [(4, .int 0), (3, .ref out), (2, .ref (ma 0)), (1, .ref (qa 0)), (0, .ref b)]) : W p l e room_1 s m #[Value.ref b] below meth c H locs 265 37830 (lw_Z below #[Value.ref b] s) (F0 m 736 ls []) := by
  obtain ⟨hx, hb, hr, hml, hown, -, hX, hbl, hlocks, hgv⟩ := C0
  obtain ⟨hl0, hl1, hl2, hs0, hs19, hs26, hn0, hm0, hm1, hm2, hm3⟩ := hf
  have hbA : ¬ A b := fun h => absurd (hAf b h) (Nat.not_le.mpr hbl)
  have hP := hP.sub (ws' := [((qa 0), .inr (9, [.ref (qa 1), .ref (qa 6), .ref (qa 9), .ref (qa 17), .ref (qa 18), .ref (qa 19), .ref (qa 20), .ref (qa 23), .ref (qa 25), .ref (qa 28), .ref (qa 29), .ref (qa 30), .ref (qa 31), .int 0, .int 0, .int 0])), ((qa 20), .inr (4, [.ref (qa 21), .ref (qa 22), .ref (qa 30)])), ((qa 21), .inl (k 1, 6, .inl (fun _ => 0))), ((qa 22), .inl (k 1, 6, .inl (fun _ => 0))), ((qa 30), .inr (2, [.ref (qa 133), .ref (qa 134), .ref (qa 135), .ref (qa 136), .ref (qa 137), .ref (qa 138), .ref (qa 139), .int 0, .int 0, .int 0, .int 0, .int 0])), ((ma 0), .inr (10, [.int 0, .ref (ma 1), .int 0, .int 0, .ref (ma 4), .ref (ma 5), .ref (ma 6), .int 0, .int 0, .ref (ma 9), .ref (ma 10), .ref (ma 11), .ref (ma 12), .int 0, .ref (ma 14), .ref (ma 15), .int 0, .int 0, .ref (ma 18), .ref (ma 19), .ref (ma 20), .ref (ma 21), .ref (ma 22), .int 0, .ref (ma 24), .int 0, .ref (ma 26), .int 0, .int 0, .int 0, .int 0, .ref (ma 31), .ref (ma 32), .ref (ma 33), .ref (ma 34), .ref (ma 35), .int 0, .int 0, .ref (ma 38), .ref (ma 39), .ref (ma 40), .long 0])), ((ma 10), .inl (k 1, 220, .inl (mg 10))), ((ma 18), .inl (k 1, 160, .inl (mg 18))), ((ma 22), .inl (k 1, 1320, .inl (mg 22)))]) [0, 20, 21, 22, 30, 133, 137, 140, 141] rfl
  have hD := hD.sub (ws' := [((qa 0), .inr (9, [.ref (qa 1), .ref (qa 6), .ref (qa 9), .ref (qa 17), .ref (qa 18), .ref (qa 19), .ref (qa 20), .ref (qa 23), .ref (qa 25), .ref (qa 28), .ref (qa 29), .ref (qa 30), .ref (qa 31), .int 0, .int 0, .int 0])), ((qa 20), .inr (4, [.ref (qa 21), .ref (qa 22), .ref (qa 30)])), ((qa 21), .inl (k 1, 6, .inl (fun _ => 0))), ((qa 22), .inl (k 1, 6, .inl (fun _ => 0))), ((qa 30), .inr (2, [.ref (qa 133), .ref (qa 134), .ref (qa 135), .ref (qa 136), .ref (qa 137), .ref (qa 138), .ref (qa 139), .int 0, .int 0, .int 0, .int 0, .int 0])), ((ma 0), .inr (10, [.int 0, .ref (ma 1), .int 0, .int 0, .ref (ma 4), .ref (ma 5), .ref (ma 6), .int 0, .int 0, .ref (ma 9), .ref (ma 10), .ref (ma 11), .ref (ma 12), .int 0, .ref (ma 14), .ref (ma 15), .int 0, .int 0, .ref (ma 18), .ref (ma 19), .ref (ma 20), .ref (ma 21), .ref (ma 22), .int 0, .ref (ma 24), .int 0, .ref (ma 26), .int 0, .int 0, .int 0, .int 0, .ref (ma 31), .ref (ma 32), .ref (ma 33), .ref (ma 34), .ref (ma 35), .int 0, .int 0, .ref (ma 38), .ref (ma 39), .ref (ma 40), .long 0])), ((ma 10), .inl (k 1, 220, .inl (mg 10))), ((ma 18), .inl (k 1, 160, .inl (mg 18))), ((ma 22), .inl (k 1, 1320, .inl (mg 22)))]) [0, 20, 21, 22, 30, 133, 137, 140, 141] (by decide) rfl
  by_cases cA : (xs 1) < 0
  · skip
    refine lv_aload_n hx hb dL_law_736 rfl (lv_at hl 3 rfl) ?_
    refine lv_aload_n hx hb dL_law_737 rfl (lv_at hl 4 rfl) ?_
    refine lv_iload hx hb dL_law_738 (lv_at hl 0 rfl) ?_
    refine lv_iconst (v := 1) hx hb dL_law_740 (by decide) ?_
    refine lv_iadd hx hb dL_law_741 ?_
    refine p_topI (v := 1) (by decide) ?_
    refine va_sld hx hb hX hbl hbA hS (show ¬ (_ ∨ _) by decide) dL_law_742 ?_
    refine p_topI (v := (xs 1)) rfl ?_
    refine p_ji (wr := [((ma 0), .inr (10, [.int 0, .ref (ma 1), .int 0, .int 0, .ref (ma 4), .ref (ma 5), .ref (ma 6), .int 0, .int 0, .ref (ma 9), .ref (ma 10), .ref (ma 11), .ref (ma 12), .int 0, .ref (ma 14), .ref (ma 15), .int 0, .int 0, .ref (ma 18), .ref (ma 19), .ref (ma 20), .ref (ma 21), .ref (ma 22), .int 0, .ref (ma 24), .int 0, .ref (ma 26), .int 0, .int 0, .int 0, .int 0, .ref (ma 31), .ref (ma 32), .ref (ma 33), .ref (ma 34), .ref (ma 35), .int 0, .int 0, .ref (ma 38), .ref (ma 39), .ref (ma 40), .long 0])), ((ma 10), .inl (k 1, 220, .inl (mg 10))), ((ma 18), .inl (k 1, 160, .inl (mg 18))), ((ma 22), .inl (k 1, 1320, .inl (mg 22)))]) (va_runV (As := [.int (xs 1)]) (rest := []) ⟨hx, hb, hml, hown, hts⟩ (c_judged_lo l D k _ qa (xs 1) cA) (cwV 1 hts lg_39 rfl rfl rfl (by decide +kernel) ⟨Nat.le_of_ble_eq_true rfl, Nat.le_of_ble_eq_true rfl⟩) (pV hK hN hP hD [0, 4, 1, 2, 3] rfl (by decide) rfl 0 rfl rfl) rfl rfl hl.1 rfl (lv_room (Nat.le_of_ble_eq_true rfl)) dL_law_743 ⟨by decide, by decide⟩) hP hD hS hA [0, 4, 1, 2, 3] [5, 6, 7, 8] rfl rfl (by decide) (by decide) (fun rx3 ux1 H locs wx2 hP hD hS => ?_)
    have hx4 : rx3 = (-2) := wx2
    subst hx4
    have hP : va_P D vwCl [((ma 0), .inr (10, [.int 0, .ref (ma 1), .int 0, .int 0, .ref (ma 4), .ref (ma 5), .ref (ma 6), .int 0, .int 0, .ref (ma 9), .ref (ma 10), .ref (ma 11), .ref (ma 12), .int 0, .ref (ma 14), .ref (ma 15), .int 0, .int 0, .ref (ma 18), .ref (ma 19), .ref (ma 20), .ref (ma 21), .ref (ma 22), .int 0, .ref (ma 24), .int 0, .ref (ma 26), .int 0, .int 0, .int 0, .int 0, .ref (ma 31), .ref (ma 32), .ref (ma 33), .ref (ma 34), .ref (ma 35), .int 0, .int 0, .ref (ma 38), .ref (ma 39), .ref (ma 40), .long 0])), ((ma 10), .inl (k 1, 220, .inl (mg 10))), ((ma 18), .inl (k 1, 160, .inl (mg 18))), ((ma 22), .inl (k 1, 1320, .inl (mg 22)))] H := hP
    have hD : va_D A [((ma 0), .inr (10, [.int 0, .ref (ma 1), .int 0, .int 0, .ref (ma 4), .ref (ma 5), .ref (ma 6), .int 0, .int 0, .ref (ma 9), .ref (ma 10), .ref (ma 11), .ref (ma 12), .int 0, .ref (ma 14), .ref (ma 15), .int 0, .int 0, .ref (ma 18), .ref (ma 19), .ref (ma 20), .ref (ma 21), .ref (ma 22), .int 0, .ref (ma 24), .int 0, .ref (ma 26), .int 0, .int 0, .int 0, .int 0, .ref (ma 31), .ref (ma 32), .ref (ma 33), .ref (ma 34), .ref (ma 35), .int 0, .int 0, .ref (ma 38), .ref (ma 39), .ref (ma 40), .long 0])), ((ma 10), .inl (k 1, 220, .inl (mg 10))), ((ma 18), .inl (k 1, 160, .inl (mg 18))), ((ma 22), .inl (k 1, 1320, .inl (mg 22)))] := hD
    refine lv_aload_n hx hb dL_law_746 rfl (lv_at hl 2 rfl) ?_
    refine lv_aload_n hx hb dL_law_747 rfl (lv_at hl 4 rfl) ?_
    refine lv_iload hx hb dL_law_748 (lv_at hl 0 rfl) ?_
    refine lv_iconst (v := 1) hx hb dL_law_750 (by decide) ?_
    refine lv_iadd hx hb dL_law_751 ?_
    refine p_topI (v := 1) (by decide) ?_
    refine va_sld hx hb hX hbl hbA hS (show ¬ (_ ∨ _) by decide) dL_law_752 ?_
    refine p_topI (v := (xs 1)) rfl ?_
    refine p_ji (wr := [((ma 10), .inl (k 1, 220, .inl (mg 10))), ((ma 18), .inl (k 1, 160, .inl (mg 18))), ((ma 22), .inl (k 1, 1320, .inl (mg 22)))]) (va_runV (As := [.int (xs 1)]) (rest := [.int (-2)]) ⟨hx, hb, hml, hown, hts⟩ (c_m_judged_lo l D k _ ma (xs 1) cA) (cwV 1 hts lg_40 rfl rfl rfl (by decide +kernel) ⟨Nat.le_of_ble_eq_true rfl, Nat.le_of_ble_eq_true rfl⟩) (pV hK hN hP hD [0] rfl (by decide) rfl 0 rfl rfl) rfl rfl hl.1 rfl (lv_room (Nat.le_of_ble_eq_true rfl)) dL_law_753 ⟨by decide, by decide⟩) hP hD hS hA [0] [1, 2, 3] rfl rfl (by decide) (by decide) (fun rx7 ux5 H locs wx6 hP hD hS => ?_)
    have hx8 : rx7 = (-2) := wx6
    subst hx8
    have hP : va_P D vwCl [((ma 10), .inl (k 1, 220, .inl (mg 10))), ((ma 18), .inl (k 1, 160, .inl (mg 18))), ((ma 22), .inl (k 1, 1320, .inl (mg 22)))] H := hP
    have hD : va_D A [((ma 10), .inl (k 1, 220, .inl (mg 10))), ((ma 18), .inl (k 1, 160, .inl (mg 18))), ((ma 22), .inl (k 1, 1320, .inl (mg 22)))] := hD
    refine lv_icmp_eq (tgt := 1487) hx hb dL_law_756 (by decide) (fun cx9 => ?_) (fun h9 => absurd (by decide) h9)
    refine lv_iinc (v := 7) (lv' := [(4, .int 7), (3, .ref out), (2, .ref (ma 0)), (1, .ref (qa 0)), (0, .ref b)]) hx hb dL_law_1487 hl (k := 0) rfl (by decide) (by decide) rfl (fun ls hl => ?_)
    refine lv_goto (tgt := 23) hx hb dL_law_1490 (by decide) ?_
    refine lv_iload hx hb dL_law_23 (lv_at hl 0 rfl) ?_
    refine lv_aload_n hx hb dL_law_25 rfl (lv_at hl 4 rfl) ?_
    refine va_slen hx hb hX hbl hbA hS dL_law_26 ?_
    refine p_topI (v := 7) (by decide) ?_
    refine lv_bipush (v := 7) hx hb dL_law_27 (by decide) ?_
    refine lv_isub hx hb dL_law_29 ?_
    refine p_topI (v := 0) (by decide) ?_
    refine lv_icmp_gt (tgt := 1493) hx hb dL_law_30 (by decide) (fun cx10 => ?_) (fun h9 => absurd (by decide) h9)
    refine lv_iconst (v := 1) hx hb dL_law_1493 (by decide) ?_
    refine va_forget (fun q hq => hAf _ (hS.2.2 q hq)) ?_
    refine W.widen (k := 600002) (n := 7302232) (by decide) (by decide) ?_
    exact lw_ret hx hb hr hlocks dL_law_1494
  by_cases cB : 2 < (xs 1)
  · skip
    refine lv_aload_n hx hb dL_law_736 rfl (lv_at hl 3 rfl) ?_
    refine lv_aload_n hx hb dL_law_737 rfl (lv_at hl 4 rfl) ?_
    refine lv_iload hx hb dL_law_738 (lv_at hl 0 rfl) ?_
    refine lv_iconst (v := 1) hx hb dL_law_740 (by decide) ?_
    refine lv_iadd hx hb dL_law_741 ?_
    refine p_topI (v := 1) (by decide) ?_
    refine va_sld hx hb hX hbl hbA hS (show ¬ (_ ∨ _) by decide) dL_law_742 ?_
    refine p_topI (v := (xs 1)) rfl ?_
    refine p_ji (wr := [((ma 0), .inr (10, [.int 0, .ref (ma 1), .int 0, .int 0, .ref (ma 4), .ref (ma 5), .ref (ma 6), .int 0, .int 0, .ref (ma 9), .ref (ma 10), .ref (ma 11), .ref (ma 12), .int 0, .ref (ma 14), .ref (ma 15), .int 0, .int 0, .ref (ma 18), .ref (ma 19), .ref (ma 20), .ref (ma 21), .ref (ma 22), .int 0, .ref (ma 24), .int 0, .ref (ma 26), .int 0, .int 0, .int 0, .int 0, .ref (ma 31), .ref (ma 32), .ref (ma 33), .ref (ma 34), .ref (ma 35), .int 0, .int 0, .ref (ma 38), .ref (ma 39), .ref (ma 40), .long 0])), ((ma 10), .inl (k 1, 220, .inl (mg 10))), ((ma 18), .inl (k 1, 160, .inl (mg 18))), ((ma 22), .inl (k 1, 1320, .inl (mg 22)))]) (va_runV (As := [.int (xs 1)]) (rest := []) ⟨hx, hb, hml, hown, hts⟩ (c_judged_hi l D k _ qa (xs 1) cB) (cwV 1 hts lg_41 rfl rfl rfl (by decide +kernel) ⟨Nat.le_of_ble_eq_true rfl, Nat.le_of_ble_eq_true rfl⟩) (pV hK hN hP hD [0, 4, 1, 2, 3] rfl (by decide) rfl 0 rfl rfl) rfl rfl hl.1 rfl (lv_room (Nat.le_of_ble_eq_true rfl)) dL_law_743 ⟨by decide, by decide⟩) hP hD hS hA [0, 4, 1, 2, 3] [5, 6, 7, 8] rfl rfl (by decide) (by decide) (fun rx13 ux11 H locs wx12 hP hD hS => ?_)
    have hx14 : rx13 = (-2) := wx12
    subst hx14
    have hP : va_P D vwCl [((ma 0), .inr (10, [.int 0, .ref (ma 1), .int 0, .int 0, .ref (ma 4), .ref (ma 5), .ref (ma 6), .int 0, .int 0, .ref (ma 9), .ref (ma 10), .ref (ma 11), .ref (ma 12), .int 0, .ref (ma 14), .ref (ma 15), .int 0, .int 0, .ref (ma 18), .ref (ma 19), .ref (ma 20), .ref (ma 21), .ref (ma 22), .int 0, .ref (ma 24), .int 0, .ref (ma 26), .int 0, .int 0, .int 0, .int 0, .ref (ma 31), .ref (ma 32), .ref (ma 33), .ref (ma 34), .ref (ma 35), .int 0, .int 0, .ref (ma 38), .ref (ma 39), .ref (ma 40), .long 0])), ((ma 10), .inl (k 1, 220, .inl (mg 10))), ((ma 18), .inl (k 1, 160, .inl (mg 18))), ((ma 22), .inl (k 1, 1320, .inl (mg 22)))] H := hP
    have hD : va_D A [((ma 0), .inr (10, [.int 0, .ref (ma 1), .int 0, .int 0, .ref (ma 4), .ref (ma 5), .ref (ma 6), .int 0, .int 0, .ref (ma 9), .ref (ma 10), .ref (ma 11), .ref (ma 12), .int 0, .ref (ma 14), .ref (ma 15), .int 0, .int 0, .ref (ma 18), .ref (ma 19), .ref (ma 20), .ref (ma 21), .ref (ma 22), .int 0, .ref (ma 24), .int 0, .ref (ma 26), .int 0, .int 0, .int 0, .int 0, .ref (ma 31), .ref (ma 32), .ref (ma 33), .ref (ma 34), .ref (ma 35), .int 0, .int 0, .ref (ma 38), .ref (ma 39), .ref (ma 40), .long 0])), ((ma 10), .inl (k 1, 220, .inl (mg 10))), ((ma 18), .inl (k 1, 160, .inl (mg 18))), ((ma 22), .inl (k 1, 1320, .inl (mg 22)))] := hD
    refine lv_aload_n hx hb dL_law_746 rfl (lv_at hl 2 rfl) ?_
    refine lv_aload_n hx hb dL_law_747 rfl (lv_at hl 4 rfl) ?_
    refine lv_iload hx hb dL_law_748 (lv_at hl 0 rfl) ?_
    refine lv_iconst (v := 1) hx hb dL_law_750 (by decide) ?_
    refine lv_iadd hx hb dL_law_751 ?_
    refine p_topI (v := 1) (by decide) ?_
    refine va_sld hx hb hX hbl hbA hS (show ¬ (_ ∨ _) by decide) dL_law_752 ?_
    refine p_topI (v := (xs 1)) rfl ?_
    refine p_ji (wr := [((ma 10), .inl (k 1, 220, .inl (mg 10))), ((ma 18), .inl (k 1, 160, .inl (mg 18))), ((ma 22), .inl (k 1, 1320, .inl (mg 22)))]) (va_runV (As := [.int (xs 1)]) (rest := [.int (-2)]) ⟨hx, hb, hml, hown, hts⟩ (c_m_judged_hi l D k _ ma (xs 1) cB) (cwV 1 hts lg_42 rfl rfl rfl (by decide +kernel) ⟨Nat.le_of_ble_eq_true rfl, Nat.le_of_ble_eq_true rfl⟩) (pV hK hN hP hD [0] rfl (by decide) rfl 0 rfl rfl) rfl rfl hl.1 rfl (lv_room (Nat.le_of_ble_eq_true rfl)) dL_law_753 ⟨by decide, by decide⟩) hP hD hS hA [0] [1, 2, 3] rfl rfl (by decide) (by decide) (fun rx17 ux15 H locs wx16 hP hD hS => ?_)
    have hx18 : rx17 = (-2) := wx16
    subst hx18
    have hP : va_P D vwCl [((ma 10), .inl (k 1, 220, .inl (mg 10))), ((ma 18), .inl (k 1, 160, .inl (mg 18))), ((ma 22), .inl (k 1, 1320, .inl (mg 22)))] H := hP
    have hD : va_D A [((ma 10), .inl (k 1, 220, .inl (mg 10))), ((ma 18), .inl (k 1, 160, .inl (mg 18))), ((ma 22), .inl (k 1, 1320, .inl (mg 22)))] := hD
    refine lv_icmp_eq (tgt := 1487) hx hb dL_law_756 (by decide) (fun cx19 => ?_) (fun h9 => absurd (by decide) h9)
    refine lv_iinc (v := 7) (lv' := [(4, .int 7), (3, .ref out), (2, .ref (ma 0)), (1, .ref (qa 0)), (0, .ref b)]) hx hb dL_law_1487 hl (k := 0) rfl (by decide) (by decide) rfl (fun ls hl => ?_)
    refine lv_goto (tgt := 23) hx hb dL_law_1490 (by decide) ?_
    refine lv_iload hx hb dL_law_23 (lv_at hl 0 rfl) ?_
    refine lv_aload_n hx hb dL_law_25 rfl (lv_at hl 4 rfl) ?_
    refine va_slen hx hb hX hbl hbA hS dL_law_26 ?_
    refine p_topI (v := 7) (by decide) ?_
    refine lv_bipush (v := 7) hx hb dL_law_27 (by decide) ?_
    refine lv_isub hx hb dL_law_29 ?_
    refine p_topI (v := 0) (by decide) ?_
    refine lv_icmp_gt (tgt := 1493) hx hb dL_law_30 (by decide) (fun cx20 => ?_) (fun h9 => absurd (by decide) h9)
    refine lv_iconst (v := 1) hx hb dL_law_1493 (by decide) ?_
    refine va_forget (fun q hq => hAf _ (hS.2.2 q hq)) ?_
    refine W.widen (k := 600002) (n := 7302232) (by decide) (by decide) ?_
    exact lw_ret hx hb hr hlocks dL_law_1494
  rcases (show (xs 1) = 0 ∨ (xs 1) = 1 ∨ (xs 1) = 2 by revert cA cB; simp only [Int32.lt_iff_toInt_lt, ← Int32.toInt_inj, (by decide : (0 : Int32).toInt = 0), (by decide : (1 : Int32).toInt = 1), (by decide : (2 : Int32).toInt = 2)]; omega) with cC | cC | cC
  · skip
    refine lv_aload_n hx hb dL_law_736 rfl (lv_at hl 3 rfl) ?_
    refine lv_aload_n hx hb dL_law_737 rfl (lv_at hl 4 rfl) ?_
    refine lv_iload hx hb dL_law_738 (lv_at hl 0 rfl) ?_
    refine lv_iconst (v := 1) hx hb dL_law_740 (by decide) ?_
    refine lv_iadd hx hb dL_law_741 ?_
    refine p_topI (v := 1) (by decide) ?_
    refine va_sld hx hb hX hbl hbA hS (show ¬ (_ ∨ _) by decide) dL_law_742 ?_
    refine p_topI (v := 0) cC ?_
    refine p_ji (wr := [((ma 0), .inr (10, [.int 0, .ref (ma 1), .int 0, .int 0, .ref (ma 4), .ref (ma 5), .ref (ma 6), .int 0, .int 0, .ref (ma 9), .ref (ma 10), .ref (ma 11), .ref (ma 12), .int 0, .ref (ma 14), .ref (ma 15), .int 0, .int 0, .ref (ma 18), .ref (ma 19), .ref (ma 20), .ref (ma 21), .ref (ma 22), .int 0, .ref (ma 24), .int 0, .ref (ma 26), .int 0, .int 0, .int 0, .int 0, .ref (ma 31), .ref (ma 32), .ref (ma 33), .ref (ma 34), .ref (ma 35), .int 0, .int 0, .ref (ma 38), .ref (ma 39), .ref (ma 40), .long 0])), ((ma 10), .inl (k 1, 220, .inl (mg 10))), ((ma 18), .inl (k 1, 160, .inl (mg 18))), ((ma 22), .inl (k 1, 1320, .inl (mg 22)))]) (va_runV (As := [.int 0]) (rest := []) ⟨hx, hb, hml, hown, hts⟩ (c_judged_0 l D k _ qa) (cwV 1 hts lg_43 rfl rfl rfl (by decide +kernel) ⟨Nat.le_of_ble_eq_true rfl, Nat.le_of_ble_eq_true rfl⟩) (pV hK hN hP hD [0, 4, 1, 2, 3] rfl (by decide) rfl 0 rfl rfl) rfl rfl hl.1 rfl (lv_room (Nat.le_of_ble_eq_true rfl)) dL_law_743 ⟨by decide, by decide⟩) hP hD hS hA [0, 4, 1, 2, 3] [5, 6, 7, 8] rfl rfl (by decide) (by decide) (fun rx23 ux21 H locs wx22 hP hD hS => ?_)
    have hx24 : rx23 = (-1) := wx22
    subst hx24
    have hP : va_P D vwCl [((ma 0), .inr (10, [.int 0, .ref (ma 1), .int 0, .int 0, .ref (ma 4), .ref (ma 5), .ref (ma 6), .int 0, .int 0, .ref (ma 9), .ref (ma 10), .ref (ma 11), .ref (ma 12), .int 0, .ref (ma 14), .ref (ma 15), .int 0, .int 0, .ref (ma 18), .ref (ma 19), .ref (ma 20), .ref (ma 21), .ref (ma 22), .int 0, .ref (ma 24), .int 0, .ref (ma 26), .int 0, .int 0, .int 0, .int 0, .ref (ma 31), .ref (ma 32), .ref (ma 33), .ref (ma 34), .ref (ma 35), .int 0, .int 0, .ref (ma 38), .ref (ma 39), .ref (ma 40), .long 0])), ((ma 10), .inl (k 1, 220, .inl (mg 10))), ((ma 18), .inl (k 1, 160, .inl (mg 18))), ((ma 22), .inl (k 1, 1320, .inl (mg 22)))] H := hP
    have hD : va_D A [((ma 0), .inr (10, [.int 0, .ref (ma 1), .int 0, .int 0, .ref (ma 4), .ref (ma 5), .ref (ma 6), .int 0, .int 0, .ref (ma 9), .ref (ma 10), .ref (ma 11), .ref (ma 12), .int 0, .ref (ma 14), .ref (ma 15), .int 0, .int 0, .ref (ma 18), .ref (ma 19), .ref (ma 20), .ref (ma 21), .ref (ma 22), .int 0, .ref (ma 24), .int 0, .ref (ma 26), .int 0, .int 0, .int 0, .int 0, .ref (ma 31), .ref (ma 32), .ref (ma 33), .ref (ma 34), .ref (ma 35), .int 0, .int 0, .ref (ma 38), .ref (ma 39), .ref (ma 40), .long 0])), ((ma 10), .inl (k 1, 220, .inl (mg 10))), ((ma 18), .inl (k 1, 160, .inl (mg 18))), ((ma 22), .inl (k 1, 1320, .inl (mg 22)))] := hD
    refine lv_aload_n hx hb dL_law_746 rfl (lv_at hl 2 rfl) ?_
    refine lv_aload_n hx hb dL_law_747 rfl (lv_at hl 4 rfl) ?_
    refine lv_iload hx hb dL_law_748 (lv_at hl 0 rfl) ?_
    refine lv_iconst (v := 1) hx hb dL_law_750 (by decide) ?_
    refine lv_iadd hx hb dL_law_751 ?_
    refine p_topI (v := 1) (by decide) ?_
    refine va_sld hx hb hX hbl hbA hS (show ¬ (_ ∨ _) by decide) dL_law_752 ?_
    refine p_topI (v := 0) cC ?_
    refine p_ji (wr := []) (va_runV (As := [.int 0]) (rest := [.int (-1)]) ⟨hx, hb, hml, hown, hts⟩ (c_m_judged_0 l D k _ ma mg hl0 hn0) (cwV 1 hts lg_44 rfl rfl rfl (by decide +kernel) ⟨Nat.le_of_ble_eq_true rfl, Nat.le_of_ble_eq_true rfl⟩) (pV hK hN hP hD [0, 3, 1, 2] rfl (by decide) rfl 0 rfl rfl) rfl rfl hl.1 rfl (lv_room (Nat.le_of_ble_eq_true rfl)) dL_law_753 ⟨by decide, by decide⟩) hP hD hS hA [0, 3, 1, 2] [] rfl rfl (by decide) (by decide) (fun rx27 ux25 H locs wx26 hP hD hS => ?_)
    have hx28 : rx27 = (-1) := wx26
    subst hx28
    have hP : va_P D vwCl [] H := hP
    have hD : va_D A [] := hD
    refine lv_icmp_eq (tgt := 1487) hx hb dL_law_756 (by decide) (fun cx29 => ?_) (fun h9 => absurd (by decide) h9)
    refine lv_iinc (v := 7) (lv' := [(4, .int 7), (3, .ref out), (2, .ref (ma 0)), (1, .ref (qa 0)), (0, .ref b)]) hx hb dL_law_1487 hl (k := 0) rfl (by decide) (by decide) rfl (fun ls hl => ?_)
    refine lv_goto (tgt := 23) hx hb dL_law_1490 (by decide) ?_
    refine lv_iload hx hb dL_law_23 (lv_at hl 0 rfl) ?_
    refine lv_aload_n hx hb dL_law_25 rfl (lv_at hl 4 rfl) ?_
    refine va_slen hx hb hX hbl hbA hS dL_law_26 ?_
    refine p_topI (v := 7) (by decide) ?_
    refine lv_bipush (v := 7) hx hb dL_law_27 (by decide) ?_
    refine lv_isub hx hb dL_law_29 ?_
    refine p_topI (v := 0) (by decide) ?_
    refine lv_icmp_gt (tgt := 1493) hx hb dL_law_30 (by decide) (fun cx30 => ?_) (fun h9 => absurd (by decide) h9)
    refine lv_iconst (v := 1) hx hb dL_law_1493 (by decide) ?_
    refine va_forget (fun q hq => hAf _ (hS.2.2 q hq)) ?_
    refine W.widen (k := 600002) (n := 7302232) (by decide) (by decide) ?_
    exact lw_ret hx hb hr hlocks dL_law_1494
  · skip
    refine lv_aload_n hx hb dL_law_736 rfl (lv_at hl 3 rfl) ?_
    refine lv_aload_n hx hb dL_law_737 rfl (lv_at hl 4 rfl) ?_
    refine lv_iload hx hb dL_law_738 (lv_at hl 0 rfl) ?_
    refine lv_iconst (v := 1) hx hb dL_law_740 (by decide) ?_
    refine lv_iadd hx hb dL_law_741 ?_
    refine p_topI (v := 1) (by decide) ?_
    refine va_sld hx hb hX hbl hbA hS (show ¬ (_ ∨ _) by decide) dL_law_742 ?_
    refine p_topI (v := 1) cC ?_
    refine p_ji (wr := [((ma 0), .inr (10, [.int 0, .ref (ma 1), .int 0, .int 0, .ref (ma 4), .ref (ma 5), .ref (ma 6), .int 0, .int 0, .ref (ma 9), .ref (ma 10), .ref (ma 11), .ref (ma 12), .int 0, .ref (ma 14), .ref (ma 15), .int 0, .int 0, .ref (ma 18), .ref (ma 19), .ref (ma 20), .ref (ma 21), .ref (ma 22), .int 0, .ref (ma 24), .int 0, .ref (ma 26), .int 0, .int 0, .int 0, .int 0, .ref (ma 31), .ref (ma 32), .ref (ma 33), .ref (ma 34), .ref (ma 35), .int 0, .int 0, .ref (ma 38), .ref (ma 39), .ref (ma 40), .long 0])), ((ma 10), .inl (k 1, 220, .inl (mg 10))), ((ma 18), .inl (k 1, 160, .inl (mg 18))), ((ma 22), .inl (k 1, 1320, .inl (mg 22)))]) (va_runV (As := [.int 1]) (rest := []) ⟨hx, hb, hml, hown, hts⟩ (c_judged_1 l D k _ qa) (cwV 1 hts lg_45 rfl rfl rfl (by decide +kernel) ⟨Nat.le_of_ble_eq_true rfl, Nat.le_of_ble_eq_true rfl⟩) (pV hK hN hP hD [0, 4, 1, 2, 3] rfl (by decide) rfl 0 rfl rfl) rfl rfl hl.1 rfl (lv_room (Nat.le_of_ble_eq_true rfl)) dL_law_743 ⟨by decide, by decide⟩) hP hD hS hA [0, 4, 1, 2, 3] [5, 6, 7, 8] rfl rfl (by decide) (by decide) (fun rx33 ux31 H locs wx32 hP hD hS => ?_)
    have hx34 : rx33 = (-1) := wx32
    subst hx34
    have hP : va_P D vwCl [((ma 0), .inr (10, [.int 0, .ref (ma 1), .int 0, .int 0, .ref (ma 4), .ref (ma 5), .ref (ma 6), .int 0, .int 0, .ref (ma 9), .ref (ma 10), .ref (ma 11), .ref (ma 12), .int 0, .ref (ma 14), .ref (ma 15), .int 0, .int 0, .ref (ma 18), .ref (ma 19), .ref (ma 20), .ref (ma 21), .ref (ma 22), .int 0, .ref (ma 24), .int 0, .ref (ma 26), .int 0, .int 0, .int 0, .int 0, .ref (ma 31), .ref (ma 32), .ref (ma 33), .ref (ma 34), .ref (ma 35), .int 0, .int 0, .ref (ma 38), .ref (ma 39), .ref (ma 40), .long 0])), ((ma 10), .inl (k 1, 220, .inl (mg 10))), ((ma 18), .inl (k 1, 160, .inl (mg 18))), ((ma 22), .inl (k 1, 1320, .inl (mg 22)))] H := hP
    have hD : va_D A [((ma 0), .inr (10, [.int 0, .ref (ma 1), .int 0, .int 0, .ref (ma 4), .ref (ma 5), .ref (ma 6), .int 0, .int 0, .ref (ma 9), .ref (ma 10), .ref (ma 11), .ref (ma 12), .int 0, .ref (ma 14), .ref (ma 15), .int 0, .int 0, .ref (ma 18), .ref (ma 19), .ref (ma 20), .ref (ma 21), .ref (ma 22), .int 0, .ref (ma 24), .int 0, .ref (ma 26), .int 0, .int 0, .int 0, .int 0, .ref (ma 31), .ref (ma 32), .ref (ma 33), .ref (ma 34), .ref (ma 35), .int 0, .int 0, .ref (ma 38), .ref (ma 39), .ref (ma 40), .long 0])), ((ma 10), .inl (k 1, 220, .inl (mg 10))), ((ma 18), .inl (k 1, 160, .inl (mg 18))), ((ma 22), .inl (k 1, 1320, .inl (mg 22)))] := hD
    refine lv_aload_n hx hb dL_law_746 rfl (lv_at hl 2 rfl) ?_
    refine lv_aload_n hx hb dL_law_747 rfl (lv_at hl 4 rfl) ?_
    refine lv_iload hx hb dL_law_748 (lv_at hl 0 rfl) ?_
    refine lv_iconst (v := 1) hx hb dL_law_750 (by decide) ?_
    refine lv_iadd hx hb dL_law_751 ?_
    refine p_topI (v := 1) (by decide) ?_
    refine va_sld hx hb hX hbl hbA hS (show ¬ (_ ∨ _) by decide) dL_law_752 ?_
    refine p_topI (v := 1) cC ?_
    refine p_ji (wr := []) (va_runV (As := [.int 1]) (rest := [.int (-1)]) ⟨hx, hb, hml, hown, hts⟩ (c_m_judged_1 l D k _ ma mg hl0 hn0) (cwV 1 hts lg_46 rfl rfl rfl (by decide +kernel) ⟨Nat.le_of_ble_eq_true rfl, Nat.le_of_ble_eq_true rfl⟩) (pV hK hN hP hD [0, 3, 1, 2] rfl (by decide) rfl 0 rfl rfl) rfl rfl hl.1 rfl (lv_room (Nat.le_of_ble_eq_true rfl)) dL_law_753 ⟨by decide, by decide⟩) hP hD hS hA [0, 3, 1, 2] [] rfl rfl (by decide) (by decide) (fun rx37 ux35 H locs wx36 hP hD hS => ?_)
    have hx38 : rx37 = (-1) := wx36
    subst hx38
    have hP : va_P D vwCl [] H := hP
    have hD : va_D A [] := hD
    refine lv_icmp_eq (tgt := 1487) hx hb dL_law_756 (by decide) (fun cx39 => ?_) (fun h9 => absurd (by decide) h9)
    refine lv_iinc (v := 7) (lv' := [(4, .int 7), (3, .ref out), (2, .ref (ma 0)), (1, .ref (qa 0)), (0, .ref b)]) hx hb dL_law_1487 hl (k := 0) rfl (by decide) (by decide) rfl (fun ls hl => ?_)
    refine lv_goto (tgt := 23) hx hb dL_law_1490 (by decide) ?_
    refine lv_iload hx hb dL_law_23 (lv_at hl 0 rfl) ?_
    refine lv_aload_n hx hb dL_law_25 rfl (lv_at hl 4 rfl) ?_
    refine va_slen hx hb hX hbl hbA hS dL_law_26 ?_
    refine p_topI (v := 7) (by decide) ?_
    refine lv_bipush (v := 7) hx hb dL_law_27 (by decide) ?_
    refine lv_isub hx hb dL_law_29 ?_
    refine p_topI (v := 0) (by decide) ?_
    refine lv_icmp_gt (tgt := 1493) hx hb dL_law_30 (by decide) (fun cx40 => ?_) (fun h9 => absurd (by decide) h9)
    refine lv_iconst (v := 1) hx hb dL_law_1493 (by decide) ?_
    refine va_forget (fun q hq => hAf _ (hS.2.2 q hq)) ?_
    refine W.widen (k := 600002) (n := 7302232) (by decide) (by decide) ?_
    exact lw_ret hx hb hr hlocks dL_law_1494
  · skip
    refine lv_aload_n hx hb dL_law_736 rfl (lv_at hl 3 rfl) ?_
    refine lv_aload_n hx hb dL_law_737 rfl (lv_at hl 4 rfl) ?_
    refine lv_iload hx hb dL_law_738 (lv_at hl 0 rfl) ?_
    refine lv_iconst (v := 1) hx hb dL_law_740 (by decide) ?_
    refine lv_iadd hx hb dL_law_741 ?_
    refine p_topI (v := 1) (by decide) ?_
    refine va_sld hx hb hX hbl hbA hS (show ¬ (_ ∨ _) by decide) dL_law_742 ?_
    refine p_topI (v := 2) cC ?_
    refine p_ji (wr := [((ma 0), .inr (10, [.int 0, .ref (ma 1), .int 0, .int 0, .ref (ma 4), .ref (ma 5), .ref (ma 6), .int 0, .int 0, .ref (ma 9), .ref (ma 10), .ref (ma 11), .ref (ma 12), .int 0, .ref (ma 14), .ref (ma 15), .int 0, .int 0, .ref (ma 18), .ref (ma 19), .ref (ma 20), .ref (ma 21), .ref (ma 22), .int 0, .ref (ma 24), .int 0, .ref (ma 26), .int 0, .int 0, .int 0, .int 0, .ref (ma 31), .ref (ma 32), .ref (ma 33), .ref (ma 34), .ref (ma 35), .int 0, .int 0, .ref (ma 38), .ref (ma 39), .ref (ma 40), .long 0])), ((ma 10), .inl (k 1, 220, .inl (mg 10))), ((ma 18), .inl (k 1, 160, .inl (mg 18))), ((ma 22), .inl (k 1, 1320, .inl (mg 22)))]) (va_runV (As := [.int 2]) (rest := []) ⟨hx, hb, hml, hown, hts⟩ (c_judged_2 l D k _ qa) (cwV 1 hts lg_47 rfl rfl rfl (by decide +kernel) ⟨Nat.le_of_ble_eq_true rfl, Nat.le_of_ble_eq_true rfl⟩) (pV hK hN hP hD [0, 4, 1, 2, 3] rfl (by decide) rfl 0 rfl rfl) rfl rfl hl.1 rfl (lv_room (Nat.le_of_ble_eq_true rfl)) dL_law_743 ⟨by decide, by decide⟩) hP hD hS hA [0, 4, 1, 2, 3] [5, 6, 7, 8] rfl rfl (by decide) (by decide) (fun rx43 ux41 H locs wx42 hP hD hS => ?_)
    have hx44 : rx43 = 0 := wx42
    subst hx44
    have hP : va_P D vwCl [((ma 0), .inr (10, [.int 0, .ref (ma 1), .int 0, .int 0, .ref (ma 4), .ref (ma 5), .ref (ma 6), .int 0, .int 0, .ref (ma 9), .ref (ma 10), .ref (ma 11), .ref (ma 12), .int 0, .ref (ma 14), .ref (ma 15), .int 0, .int 0, .ref (ma 18), .ref (ma 19), .ref (ma 20), .ref (ma 21), .ref (ma 22), .int 0, .ref (ma 24), .int 0, .ref (ma 26), .int 0, .int 0, .int 0, .int 0, .ref (ma 31), .ref (ma 32), .ref (ma 33), .ref (ma 34), .ref (ma 35), .int 0, .int 0, .ref (ma 38), .ref (ma 39), .ref (ma 40), .long 0])), ((ma 10), .inl (k 1, 220, .inl (mg 10))), ((ma 18), .inl (k 1, 160, .inl (mg 18))), ((ma 22), .inl (k 1, 1320, .inl (mg 22)))] H := hP
    have hD : va_D A [((ma 0), .inr (10, [.int 0, .ref (ma 1), .int 0, .int 0, .ref (ma 4), .ref (ma 5), .ref (ma 6), .int 0, .int 0, .ref (ma 9), .ref (ma 10), .ref (ma 11), .ref (ma 12), .int 0, .ref (ma 14), .ref (ma 15), .int 0, .int 0, .ref (ma 18), .ref (ma 19), .ref (ma 20), .ref (ma 21), .ref (ma 22), .int 0, .ref (ma 24), .int 0, .ref (ma 26), .int 0, .int 0, .int 0, .int 0, .ref (ma 31), .ref (ma 32), .ref (ma 33), .ref (ma 34), .ref (ma 35), .int 0, .int 0, .ref (ma 38), .ref (ma 39), .ref (ma 40), .long 0])), ((ma 10), .inl (k 1, 220, .inl (mg 10))), ((ma 18), .inl (k 1, 160, .inl (mg 18))), ((ma 22), .inl (k 1, 1320, .inl (mg 22)))] := hD
    refine lv_aload_n hx hb dL_law_746 rfl (lv_at hl 2 rfl) ?_
    refine lv_aload_n hx hb dL_law_747 rfl (lv_at hl 4 rfl) ?_
    refine lv_iload hx hb dL_law_748 (lv_at hl 0 rfl) ?_
    refine lv_iconst (v := 1) hx hb dL_law_750 (by decide) ?_
    refine lv_iadd hx hb dL_law_751 ?_
    refine p_topI (v := 1) (by decide) ?_
    refine va_sld hx hb hX hbl hbA hS (show ¬ (_ ∨ _) by decide) dL_law_752 ?_
    refine p_topI (v := 2) cC ?_
    refine p_ji (wr := []) (va_runV (As := [.int 2]) (rest := [.int 0]) ⟨hx, hb, hml, hown, hts⟩ (c_m_judged_2 l D k _ ma mg hl0 hn0) (cwV 1 hts lg_48 rfl rfl rfl (by decide +kernel) ⟨Nat.le_of_ble_eq_true rfl, Nat.le_of_ble_eq_true rfl⟩) (pV hK hN hP hD [0, 3, 1, 2] rfl (by decide) rfl 0 rfl rfl) rfl rfl hl.1 rfl (lv_room (Nat.le_of_ble_eq_true rfl)) dL_law_753 ⟨by decide, by decide⟩) hP hD hS hA [0, 3, 1, 2] [] rfl rfl (by decide) (by decide) (fun rx47 ux45 H locs wx46 hP hD hS => ?_)
    have hx48 : rx47 = 0 := wx46
    subst hx48
    have hP : va_P D vwCl [] H := hP
    have hD : va_D A [] := hD
    refine lv_icmp_eq (tgt := 1487) hx hb dL_law_756 (by decide) (fun cx49 => ?_) (fun h9 => absurd (by decide) h9)
    refine lv_iinc (v := 7) (lv' := [(4, .int 7), (3, .ref out), (2, .ref (ma 0)), (1, .ref (qa 0)), (0, .ref b)]) hx hb dL_law_1487 hl (k := 0) rfl (by decide) (by decide) rfl (fun ls hl => ?_)
    refine lv_goto (tgt := 23) hx hb dL_law_1490 (by decide) ?_
    refine lv_iload hx hb dL_law_23 (lv_at hl 0 rfl) ?_
    refine lv_aload_n hx hb dL_law_25 rfl (lv_at hl 4 rfl) ?_
    refine va_slen hx hb hX hbl hbA hS dL_law_26 ?_
    refine p_topI (v := 7) (by decide) ?_
    refine lv_bipush (v := 7) hx hb dL_law_27 (by decide) ?_
    refine lv_isub hx hb dL_law_29 ?_
    refine p_topI (v := 0) (by decide) ?_
    refine lv_icmp_gt (tgt := 1493) hx hb dL_law_30 (by decide) (fun cx50 => ?_) (fun h9 => absurd (by decide) h9)
    refine lv_iconst (v := 1) hx hb dL_law_1493 (by decide) ?_
    refine va_forget (fun q hq => hAf _ (hS.2.2 q hq)) ?_
    refine W.widen (k := 600002) (n := 7302232) (by decide) (by decide) ?_
    exact lw_ret hx hb hr hlocks dL_law_1494
set_option maxHeartbeats 4000000 in
set_option maxRecDepth 100000 in
theorem lc_worn {p : Program} {e : Env} {s : State} {m : MethodId} {below : List Frame} {meth : Method} {c : Code} (l : Launch) {b : Nat} {xs : Nat → Int32} (C0 : lw_At p s m meth c b 7 xs) (hts : ∀ w ∈ p_tbl, w.before #[Value.ref b] s = true) {D : va_G} {k : Nat → ClassId} (hK : va_K D vwCl (pT k) s) (hN : pN s) {A : Nat → Prop} (hA : ∀ q : Nat, s.heap.size ≤ q → A q) (hAf : ∀ q : Nat, A q → s.heap.size ≤ q) (qa ma : Nat → Nat) (gs mg : Nat → Nat → Int32) (out : Nat) (hf : p_mf mg) {H : Heap} {locs : List Loc} {ls : Array Slot} (hP : va_P D vwCl (p_big k qa ma gs mg) H) (hD : va_D A (p_big k qa ma gs mg)) (hS : va_S A s.heap H locs) (hl : lv_has ls 7 [(4, .int 0), (3, .ref out), (2, .ref (ma 0)), (1, .ref (qa 0)), (0, .ref b)]) : W p l e room_1 s m #[Value.ref b] below meth c H locs 265 37830 (lw_Z below #[Value.ref b] s) (F0 m 761 ls []) := by
  obtain ⟨hx, hb, hr, hml, hown, -, hX, hbl, hlocks, hgv⟩ := C0
  obtain ⟨hl0, hl1, hl2, hs0, hs19, hs26, hn0, hm0, hm1, hm2, hm3⟩ := hf
  have hbA : ¬ A b := fun h => absurd (hAf b h) (Nat.not_le.mpr hbl)
  have hP := hP.sub (ws' := [((qa 0), .inr (9, [.ref (qa 1), .ref (qa 6), .ref (qa 9), .ref (qa 17), .ref (qa 18), .ref (qa 19), .ref (qa 20), .ref (qa 23), .ref (qa 25), .ref (qa 28), .ref (qa 29), .ref (qa 30), .ref (qa 31), .int 0, .int 0, .int 0])), ((qa 30), .inr (2, [.ref (qa 133), .ref (qa 134), .ref (qa 135), .ref (qa 136), .ref (qa 137), .ref (qa 138), .ref (qa 139), .int 0, .int 0, .int 0, .int 0, .int 0])), ((ma 0), .inr (10, [.int 0, .ref (ma 1), .int 0, .int 0, .ref (ma 4), .ref (ma 5), .ref (ma 6), .int 0, .int 0, .ref (ma 9), .ref (ma 10), .ref (ma 11), .ref (ma 12), .int 0, .ref (ma 14), .ref (ma 15), .int 0, .int 0, .ref (ma 18), .ref (ma 19), .ref (ma 20), .ref (ma 21), .ref (ma 22), .int 0, .ref (ma 24), .int 0, .ref (ma 26), .int 0, .int 0, .int 0, .int 0, .ref (ma 31), .ref (ma 32), .ref (ma 33), .ref (ma 34), .ref (ma 35), .int 0, .int 0, .ref (ma 38), .ref (ma 39), .ref (ma 40), .long 0])), ((ma 10), .inl (k 1, 220, .inl (mg 10)))]) [0, 30, 133, 137] rfl
  have hD := hD.sub (ws' := [((qa 0), .inr (9, [.ref (qa 1), .ref (qa 6), .ref (qa 9), .ref (qa 17), .ref (qa 18), .ref (qa 19), .ref (qa 20), .ref (qa 23), .ref (qa 25), .ref (qa 28), .ref (qa 29), .ref (qa 30), .ref (qa 31), .int 0, .int 0, .int 0])), ((qa 30), .inr (2, [.ref (qa 133), .ref (qa 134), .ref (qa 135), .ref (qa 136), .ref (qa 137), .ref (qa 138), .ref (qa 139), .int 0, .int 0, .int 0, .int 0, .int 0])), ((ma 0), .inr (10, [.int 0, .ref (ma 1), .int 0, .int 0, .ref (ma 4), .ref (ma 5), .ref (ma 6), .int 0, .int 0, .ref (ma 9), .ref (ma 10), .ref (ma 11), .ref (ma 12), .int 0, .ref (ma 14), .ref (ma 15), .int 0, .int 0, .ref (ma 18), .ref (ma 19), .ref (ma 20), .ref (ma 21), .ref (ma 22), .int 0, .ref (ma 24), .int 0, .ref (ma 26), .int 0, .int 0, .int 0, .int 0, .ref (ma 31), .ref (ma 32), .ref (ma 33), .ref (ma 34), .ref (ma 35), .int 0, .int 0, .ref (ma 38), .ref (ma 39), .ref (ma 40), .long 0])), ((ma 10), .inl (k 1, 220, .inl (mg 10)))]) [0, 30, 133, 137] (by decide) rfl
  refine lv_aload_n hx hb dL_law_761 rfl (lv_at hl 3 rfl) ?_
  refine lv_aload_n hx hb dL_law_762 rfl (lv_at hl 4 rfl) ?_
  refine lv_iload hx hb dL_law_763 (lv_at hl 0 rfl) ?_
  refine lv_iconst (v := 1) hx hb dL_law_765 (by decide) ?_
  refine lv_iadd hx hb dL_law_766 ?_
  refine p_topI (v := 1) (by decide) ?_
  refine va_sld hx hb hX hbl hbA hS (show ¬ (_ ∨ _) by decide) dL_law_767 ?_
  refine p_topI (v := (xs 1)) rfl ?_
  refine lv_aload_n hx hb dL_law_768 rfl (lv_at hl 4 rfl) ?_
  refine lv_iload hx hb dL_law_769 (lv_at hl 0 rfl) ?_
  refine lv_iconst (v := 2) hx hb dL_law_771 (by decide) ?_
  refine lv_iadd hx hb dL_law_772 ?_
  refine p_topI (v := 2) (by decide) ?_
  refine va_sld hx hb hX hbl hbA hS (show ¬ (_ ∨ _) by decide) dL_law_773 ?_
  refine p_topI (v := (xs 2)) rfl ?_
  refine p_ji (wr := [((ma 0), .inr (10, [.int 0, .ref (ma 1), .int 0, .int 0, .ref (ma 4), .ref (ma 5), .ref (ma 6), .int 0, .int 0, .ref (ma 9), .ref (ma 10), .ref (ma 11), .ref (ma 12), .int 0, .ref (ma 14), .ref (ma 15), .int 0, .int 0, .ref (ma 18), .ref (ma 19), .ref (ma 20), .ref (ma 21), .ref (ma 22), .int 0, .ref (ma 24), .int 0, .ref (ma 26), .int 0, .int 0, .int 0, .int 0, .ref (ma 31), .ref (ma 32), .ref (ma 33), .ref (ma 34), .ref (ma 35), .int 0, .int 0, .ref (ma 38), .ref (ma 39), .ref (ma 40), .long 0])), ((ma 10), .inl (k 1, 220, .inl (mg 10)))]) (va_runV (As := [.int (xs 1), .int (xs 2)]) (rest := []) ⟨hx, hb, hml, hown, hts⟩ (c_worn l D k _ qa (xs 1) (xs 2)) (cwV 2 hts lg_49 rfl rfl rfl (by decide +kernel) ⟨Nat.le_of_ble_eq_true rfl, Nat.le_of_ble_eq_true rfl⟩) (pV hK hN hP hD [0, 1] rfl (by decide) rfl 0 rfl rfl) rfl rfl hl.1 rfl (lv_room (Nat.le_of_ble_eq_true rfl)) dL_law_774 ⟨by decide, by decide⟩) hP hD hS hA [0, 1] [2, 3] rfl rfl (by decide) (by decide) (fun rx3 ux1 H locs wx2 hP hD hS => ?_)
  have hx4 : rx3 = (-1) := wx2
  subst hx4
  have hP : va_P D vwCl [((ma 0), .inr (10, [.int 0, .ref (ma 1), .int 0, .int 0, .ref (ma 4), .ref (ma 5), .ref (ma 6), .int 0, .int 0, .ref (ma 9), .ref (ma 10), .ref (ma 11), .ref (ma 12), .int 0, .ref (ma 14), .ref (ma 15), .int 0, .int 0, .ref (ma 18), .ref (ma 19), .ref (ma 20), .ref (ma 21), .ref (ma 22), .int 0, .ref (ma 24), .int 0, .ref (ma 26), .int 0, .int 0, .int 0, .int 0, .ref (ma 31), .ref (ma 32), .ref (ma 33), .ref (ma 34), .ref (ma 35), .int 0, .int 0, .ref (ma 38), .ref (ma 39), .ref (ma 40), .long 0])), ((ma 10), .inl (k 1, 220, .inl (mg 10)))] H := hP
  have hD : va_D A [((ma 0), .inr (10, [.int 0, .ref (ma 1), .int 0, .int 0, .ref (ma 4), .ref (ma 5), .ref (ma 6), .int 0, .int 0, .ref (ma 9), .ref (ma 10), .ref (ma 11), .ref (ma 12), .int 0, .ref (ma 14), .ref (ma 15), .int 0, .int 0, .ref (ma 18), .ref (ma 19), .ref (ma 20), .ref (ma 21), .ref (ma 22), .int 0, .ref (ma 24), .int 0, .ref (ma 26), .int 0, .int 0, .int 0, .int 0, .ref (ma 31), .ref (ma 32), .ref (ma 33), .ref (ma 34), .ref (ma 35), .int 0, .int 0, .ref (ma 38), .ref (ma 39), .ref (ma 40), .long 0])), ((ma 10), .inl (k 1, 220, .inl (mg 10)))] := hD
  refine lv_aload_n hx hb dL_law_777 rfl (lv_at hl 2 rfl) ?_
  refine lv_aload_n hx hb dL_law_778 rfl (lv_at hl 4 rfl) ?_
  refine lv_iload hx hb dL_law_779 (lv_at hl 0 rfl) ?_
  refine lv_iconst (v := 1) hx hb dL_law_781 (by decide) ?_
  refine lv_iadd hx hb dL_law_782 ?_
  refine p_topI (v := 1) (by decide) ?_
  refine va_sld hx hb hX hbl hbA hS (show ¬ (_ ∨ _) by decide) dL_law_783 ?_
  refine p_topI (v := (xs 1)) rfl ?_
  refine lv_aload_n hx hb dL_law_784 rfl (lv_at hl 4 rfl) ?_
  refine lv_iload hx hb dL_law_785 (lv_at hl 0 rfl) ?_
  refine lv_iconst (v := 2) hx hb dL_law_787 (by decide) ?_
  refine lv_iadd hx hb dL_law_788 ?_
  refine p_topI (v := 2) (by decide) ?_
  refine va_sld hx hb hX hbl hbA hS (show ¬ (_ ∨ _) by decide) dL_law_789 ?_
  refine p_topI (v := (xs 2)) rfl ?_
  refine p_ji (wr := []) (va_runV (As := [.int (xs 1), .int (xs 2)]) (rest := [.int (-1)]) ⟨hx, hb, hml, hown, hts⟩ (c_m_worn l D k _ ma mg (xs 1) (xs 2) hl0) (cwV 2 hts lg_50 rfl rfl rfl (by decide +kernel) ⟨Nat.le_of_ble_eq_true rfl, Nat.le_of_ble_eq_true rfl⟩) (pV hK hN hP hD [0, 1] rfl (by decide) rfl 0 rfl rfl) rfl rfl hl.1 rfl (lv_room (Nat.le_of_ble_eq_true rfl)) dL_law_790 ⟨by decide, by decide⟩) hP hD hS hA [0, 1] [] rfl rfl (by decide) (by decide) (fun rx7 ux5 H locs wx6 hP hD hS => ?_)
  have hx8 : rx7 = (-1) := wx6
  subst hx8
  have hP : va_P D vwCl [] H := hP
  have hD : va_D A [] := hD
  refine lv_icmp_eq (tgt := 1487) hx hb dL_law_793 (by decide) (fun cx9 => ?_) (fun h9 => absurd (by decide) h9)
  refine lv_iinc (v := 7) (lv' := [(4, .int 7), (3, .ref out), (2, .ref (ma 0)), (1, .ref (qa 0)), (0, .ref b)]) hx hb dL_law_1487 hl (k := 0) rfl (by decide) (by decide) rfl (fun ls hl => ?_)
  refine lv_goto (tgt := 23) hx hb dL_law_1490 (by decide) ?_
  refine lv_iload hx hb dL_law_23 (lv_at hl 0 rfl) ?_
  refine lv_aload_n hx hb dL_law_25 rfl (lv_at hl 4 rfl) ?_
  refine va_slen hx hb hX hbl hbA hS dL_law_26 ?_
  refine p_topI (v := 7) (by decide) ?_
  refine lv_bipush (v := 7) hx hb dL_law_27 (by decide) ?_
  refine lv_isub hx hb dL_law_29 ?_
  refine p_topI (v := 0) (by decide) ?_
  refine lv_icmp_gt (tgt := 1493) hx hb dL_law_30 (by decide) (fun cx10 => ?_) (fun h9 => absurd (by decide) h9)
  refine lv_iconst (v := 1) hx hb dL_law_1493 (by decide) ?_
  refine va_forget (fun q hq => hAf _ (hS.2.2 q hq)) ?_
  refine W.widen (k := 600002) (n := 7302232) (by decide) (by decide) ?_
  exact lw_ret hx hb hr hlocks dL_law_1494
set_option maxHeartbeats 4000000 in
set_option maxRecDepth 100000 in
theorem lc_love {p : Program} {e : Env} {s : State} {m : MethodId} {below : List Frame} {meth : Method} {c : Code} (l : Launch) {b : Nat} {xs : Nat → Int32} (C0 : lw_At p s m meth c b 7 xs) (hts : ∀ w ∈ p_tbl, w.before #[Value.ref b] s = true) {D : va_G} {k : Nat → ClassId} (hK : va_K D vwCl (pT k) s) (hN : pN s) {A : Nat → Prop} (hA : ∀ q : Nat, s.heap.size ≤ q → A q) (hAf : ∀ q : Nat, A q → s.heap.size ≤ q) (qa ma : Nat → Nat) (gs mg : Nat → Nat → Int32) (out : Nat) (hf : p_mf mg) {H : Heap} {locs : List Loc} {ls : Array Slot} (hP : va_P D vwCl (p_big k qa ma gs mg) H) (hD : va_D A (p_big k qa ma gs mg)) (hS : va_S A s.heap H locs) (hl : lv_has ls 7 [(4, .int 0), (3, .ref out), (2, .ref (ma 0)), (1, .ref (qa 0)), (0, .ref b)]) : W p l e room_1 s m #[Value.ref b] below meth c H locs 265 37830 (lw_Z below #[Value.ref b] s) (F0 m 798 ls []) := by
  obtain ⟨hx, hb, hr, hml, hown, -, hX, hbl, hlocks, hgv⟩ := C0
  obtain ⟨hl0, hl1, hl2, hs0, hs19, hs26, hn0, hm0, hm1, hm2, hm3⟩ := hf
  have hbA : ¬ A b := fun h => absurd (hAf b h) (Nat.not_le.mpr hbl)
  have hP := hP.sub (ws' := [((qa 0), .inr (9, [.ref (qa 1), .ref (qa 6), .ref (qa 9), .ref (qa 17), .ref (qa 18), .ref (qa 19), .ref (qa 20), .ref (qa 23), .ref (qa 25), .ref (qa 28), .ref (qa 29), .ref (qa 30), .ref (qa 31), .int 0, .int 0, .int 0])), ((qa 30), .inr (2, [.ref (qa 133), .ref (qa 134), .ref (qa 135), .ref (qa 136), .ref (qa 137), .ref (qa 138), .ref (qa 139), .int 0, .int 0, .int 0, .int 0, .int 0])), ((ma 0), .inr (10, [.int 0, .ref (ma 1), .int 0, .int 0, .ref (ma 4), .ref (ma 5), .ref (ma 6), .int 0, .int 0, .ref (ma 9), .ref (ma 10), .ref (ma 11), .ref (ma 12), .int 0, .ref (ma 14), .ref (ma 15), .int 0, .int 0, .ref (ma 18), .ref (ma 19), .ref (ma 20), .ref (ma 21), .ref (ma 22), .int 0, .ref (ma 24), .int 0, .ref (ma 26), .int 0, .int 0, .int 0, .int 0, .ref (ma 31), .ref (ma 32), .ref (ma 33), .ref (ma 34), .ref (ma 35), .int 0, .int 0, .ref (ma 38), .ref (ma 39), .ref (ma 40), .long 0])), ((ma 10), .inl (k 1, 220, .inl (mg 10)))]) [0, 30, 133, 137] rfl
  have hD := hD.sub (ws' := [((qa 0), .inr (9, [.ref (qa 1), .ref (qa 6), .ref (qa 9), .ref (qa 17), .ref (qa 18), .ref (qa 19), .ref (qa 20), .ref (qa 23), .ref (qa 25), .ref (qa 28), .ref (qa 29), .ref (qa 30), .ref (qa 31), .int 0, .int 0, .int 0])), ((qa 30), .inr (2, [.ref (qa 133), .ref (qa 134), .ref (qa 135), .ref (qa 136), .ref (qa 137), .ref (qa 138), .ref (qa 139), .int 0, .int 0, .int 0, .int 0, .int 0])), ((ma 0), .inr (10, [.int 0, .ref (ma 1), .int 0, .int 0, .ref (ma 4), .ref (ma 5), .ref (ma 6), .int 0, .int 0, .ref (ma 9), .ref (ma 10), .ref (ma 11), .ref (ma 12), .int 0, .ref (ma 14), .ref (ma 15), .int 0, .int 0, .ref (ma 18), .ref (ma 19), .ref (ma 20), .ref (ma 21), .ref (ma 22), .int 0, .ref (ma 24), .int 0, .ref (ma 26), .int 0, .int 0, .int 0, .int 0, .ref (ma 31), .ref (ma 32), .ref (ma 33), .ref (ma 34), .ref (ma 35), .int 0, .int 0, .ref (ma 38), .ref (ma 39), .ref (ma 40), .long 0])), ((ma 10), .inl (k 1, 220, .inl (mg 10)))]) [0, 30, 133, 137] (by decide) rfl
  refine lv_aload_n hx hb dL_law_798 rfl (lv_at hl 3 rfl) ?_
  refine lv_aload_n hx hb dL_law_799 rfl (lv_at hl 4 rfl) ?_
  refine lv_iload hx hb dL_law_800 (lv_at hl 0 rfl) ?_
  refine lv_iconst (v := 1) hx hb dL_law_802 (by decide) ?_
  refine lv_iadd hx hb dL_law_803 ?_
  refine p_topI (v := 1) (by decide) ?_
  refine va_sld hx hb hX hbl hbA hS (show ¬ (_ ∨ _) by decide) dL_law_804 ?_
  refine p_topI (v := (xs 1)) rfl ?_
  refine p_ji (wr := [((ma 0), .inr (10, [.int 0, .ref (ma 1), .int 0, .int 0, .ref (ma 4), .ref (ma 5), .ref (ma 6), .int 0, .int 0, .ref (ma 9), .ref (ma 10), .ref (ma 11), .ref (ma 12), .int 0, .ref (ma 14), .ref (ma 15), .int 0, .int 0, .ref (ma 18), .ref (ma 19), .ref (ma 20), .ref (ma 21), .ref (ma 22), .int 0, .ref (ma 24), .int 0, .ref (ma 26), .int 0, .int 0, .int 0, .int 0, .ref (ma 31), .ref (ma 32), .ref (ma 33), .ref (ma 34), .ref (ma 35), .int 0, .int 0, .ref (ma 38), .ref (ma 39), .ref (ma 40), .long 0])), ((ma 10), .inl (k 1, 220, .inl (mg 10)))]) (va_runV (As := [.int (xs 1)]) (rest := []) ⟨hx, hb, hml, hown, hts⟩ (c_love l D k _ qa (xs 1)) (cwV 1 hts lg_51 rfl rfl rfl (by decide +kernel) ⟨Nat.le_of_ble_eq_true rfl, Nat.le_of_ble_eq_true rfl⟩) (pV hK hN hP hD [0, 1] rfl (by decide) rfl 0 rfl rfl) rfl rfl hl.1 rfl (lv_room (Nat.le_of_ble_eq_true rfl)) dL_law_805 ⟨by decide, by decide⟩) hP hD hS hA [0, 1] [2, 3] rfl rfl (by decide) (by decide) (fun rx3 ux1 H locs wx2 hP hD hS => ?_)
  have hx4 : rx3 = (-1) := wx2
  subst hx4
  have hP : va_P D vwCl [((ma 0), .inr (10, [.int 0, .ref (ma 1), .int 0, .int 0, .ref (ma 4), .ref (ma 5), .ref (ma 6), .int 0, .int 0, .ref (ma 9), .ref (ma 10), .ref (ma 11), .ref (ma 12), .int 0, .ref (ma 14), .ref (ma 15), .int 0, .int 0, .ref (ma 18), .ref (ma 19), .ref (ma 20), .ref (ma 21), .ref (ma 22), .int 0, .ref (ma 24), .int 0, .ref (ma 26), .int 0, .int 0, .int 0, .int 0, .ref (ma 31), .ref (ma 32), .ref (ma 33), .ref (ma 34), .ref (ma 35), .int 0, .int 0, .ref (ma 38), .ref (ma 39), .ref (ma 40), .long 0])), ((ma 10), .inl (k 1, 220, .inl (mg 10)))] H := hP
  have hD : va_D A [((ma 0), .inr (10, [.int 0, .ref (ma 1), .int 0, .int 0, .ref (ma 4), .ref (ma 5), .ref (ma 6), .int 0, .int 0, .ref (ma 9), .ref (ma 10), .ref (ma 11), .ref (ma 12), .int 0, .ref (ma 14), .ref (ma 15), .int 0, .int 0, .ref (ma 18), .ref (ma 19), .ref (ma 20), .ref (ma 21), .ref (ma 22), .int 0, .ref (ma 24), .int 0, .ref (ma 26), .int 0, .int 0, .int 0, .int 0, .ref (ma 31), .ref (ma 32), .ref (ma 33), .ref (ma 34), .ref (ma 35), .int 0, .int 0, .ref (ma 38), .ref (ma 39), .ref (ma 40), .long 0])), ((ma 10), .inl (k 1, 220, .inl (mg 10)))] := hD
  refine lv_aload_n hx hb dL_law_808 rfl (lv_at hl 2 rfl) ?_
  refine lv_aload_n hx hb dL_law_809 rfl (lv_at hl 4 rfl) ?_
  refine lv_iload hx hb dL_law_810 (lv_at hl 0 rfl) ?_
  refine lv_iconst (v := 1) hx hb dL_law_812 (by decide) ?_
  refine lv_iadd hx hb dL_law_813 ?_
  refine p_topI (v := 1) (by decide) ?_
  refine va_sld hx hb hX hbl hbA hS (show ¬ (_ ∨ _) by decide) dL_law_814 ?_
  refine p_topI (v := (xs 1)) rfl ?_
  refine p_ji (wr := []) (va_runV (As := [.int (xs 1)]) (rest := [.int (-1)]) ⟨hx, hb, hml, hown, hts⟩ (c_m_love l D k _ ma mg (xs 1) hl0) (cwV 1 hts lg_52 rfl rfl rfl (by decide +kernel) ⟨Nat.le_of_ble_eq_true rfl, Nat.le_of_ble_eq_true rfl⟩) (pV hK hN hP hD [0, 1] rfl (by decide) rfl 0 rfl rfl) rfl rfl hl.1 rfl (lv_room (Nat.le_of_ble_eq_true rfl)) dL_law_815 ⟨by decide, by decide⟩) hP hD hS hA [0, 1] [] rfl rfl (by decide) (by decide) (fun rx7 ux5 H locs wx6 hP hD hS => ?_)
  have hx8 : rx7 = (-1) := wx6
  subst hx8
  have hP : va_P D vwCl [] H := hP
  have hD : va_D A [] := hD
  refine lv_icmp_eq (tgt := 1487) hx hb dL_law_818 (by decide) (fun cx9 => ?_) (fun h9 => absurd (by decide) h9)
  refine lv_iinc (v := 7) (lv' := [(4, .int 7), (3, .ref out), (2, .ref (ma 0)), (1, .ref (qa 0)), (0, .ref b)]) hx hb dL_law_1487 hl (k := 0) rfl (by decide) (by decide) rfl (fun ls hl => ?_)
  refine lv_goto (tgt := 23) hx hb dL_law_1490 (by decide) ?_
  refine lv_iload hx hb dL_law_23 (lv_at hl 0 rfl) ?_
  refine lv_aload_n hx hb dL_law_25 rfl (lv_at hl 4 rfl) ?_
  refine va_slen hx hb hX hbl hbA hS dL_law_26 ?_
  refine p_topI (v := 7) (by decide) ?_
  refine lv_bipush (v := 7) hx hb dL_law_27 (by decide) ?_
  refine lv_isub hx hb dL_law_29 ?_
  refine p_topI (v := 0) (by decide) ?_
  refine lv_icmp_gt (tgt := 1493) hx hb dL_law_30 (by decide) (fun cx10 => ?_) (fun h9 => absurd (by decide) h9)
  refine lv_iconst (v := 1) hx hb dL_law_1493 (by decide) ?_
  refine va_forget (fun q hq => hAf _ (hS.2.2 q hq)) ?_
  refine W.widen (k := 600002) (n := 7302232) (by decide) (by decide) ?_
  exact lw_ret hx hb hr hlocks dL_law_1494
