set_option maxHeartbeats 4000000 in
set_option maxRecDepth 100000 in
theorem whole_start {p : Program} {e : Env} {s : State} {m : MethodId} {below : List Frame} {meth : Method} {c : Code} (l : Launch) (hst : l.stackTraces = false) {b L : Nat} {xs : Nat → Int32} (hL : L ≤ 3584) (C0 : lw_At p s m meth c b L xs) : W p l e room_1 s m #[Value.ref b] below meth c s.heap [] 0 0 (lw_Z below #[Value.ref b] s) (entryFrame m ([Value.ref b] : List Value).toArray 7) := by
  obtain ⟨hx, hb, hr, hml, hown, hts0, hX, hbl, hlocks, hgv⟩ := id C0
  have hs1 : (Cond.selects RX4 ⟨"RiverVows$Ways", "search", "(III)V"⟩ yX10_search).before #[Value.ref b] s = true := p_selPriv (z := yX10_refresh) (x := ⟨"RiverVows$Matches", "refresh", "(LRiverVows$Land;)V"⟩) (by decide) rfl (hts0 (.selects RX4 ⟨"RiverVows$Matches", "refresh", "(LRiverVows$Land;)V"⟩ yX10_refresh) (List.mem_of_getElem? (i := 1258) (by decide +kernel))) (hts0 (.privateMethod yX10_search) (List.mem_of_getElem? (i := 1272) (by decide +kernel))) (hts0 (.instanceMethod yX10_search) (List.mem_of_getElem? (i := 1273) (by decide +kernel)))
  have hs2 : (Cond.selects RX1 ⟨"RiverVows$Ways", "search", "(III)V"⟩ yX10_search).before #[Value.ref b] s = true := p_selPriv (z := yX10_refresh) (x := ⟨"RiverVows$Findings", "refresh", "(LRiverVows$Land;)V"⟩) (by decide) rfl (hts0 (.selects RX1 ⟨"RiverVows$Findings", "refresh", "(LRiverVows$Land;)V"⟩ yX10_refresh) (List.mem_of_getElem? (i := 1392) (by decide +kernel))) (hts0 (.privateMethod yX10_search) (List.mem_of_getElem? (i := 1272) (by decide +kernel))) (hts0 (.instanceMethod yX10_search) (List.mem_of_getElem? (i := 1273) (by decide +kernel)))
  have hts : ∀ w ∈ gTC, w.before #[Value.ref b] s = true := List.forall_mem_cons.mpr ⟨hs2, List.forall_mem_cons.mpr ⟨hs1, fun w h => hts0 w (List.mem_filter.mp h).1⟩⟩
  obtain ⟨A, hAe⟩ : ∃ A : Nat → Prop, A = fun q => s.heap.size ≤ q := ⟨_, rfl⟩
  have hA : ∀ q : Nat, s.heap.size ≤ q → A q := fun q h => by rw [hAe]; exact h
  have hAf : ∀ q : Nat, A q → s.heap.size ≤ q := fun q h => by rw [hAe] at h; exact h
  obtain ⟨d0, i0, hKn0⟩ := u_known (C := RX1) (T := TX1) (N := 7) (n := 7) hts gl_X1 (hts0 (.instantiable RX1 7) (List.mem_of_getElem? (i := 558) (by decide +kernel)))
  obtain ⟨d1, i1, hKn1⟩ := u_known (C := RX2) (T := TX2) (N := 3) (n := 3) hts gl_X2 (hts0 (.instantiable RX2 3) (List.mem_of_getElem? (i := 239) (by decide +kernel)))
  obtain ⟨d2, i2, hKn2⟩ := u_known (C := RX3) (T := TX3) (N := 12) (n := 12) hts gl_X3 (hts0 (.instantiable RX3 12) (List.mem_of_getElem? (i := 231) (by decide +kernel)))
  obtain ⟨d3, i3, hKn3⟩ := u_known (C := RX4) (T := TX4) (N := 6) (n := 6) hts gl_X4 (hts0 (.instantiable RX4 6) (List.mem_of_getElem? (i := 508) (by decide +kernel)))
  obtain ⟨d4, i4, hKn4⟩ := u_known (C := RX5) (T := TX5) (N := 3) (n := 3) hts gl_X5 (hts0 (.instantiable RX5 3) (List.mem_of_getElem? (i := 486) (by decide +kernel)))
  obtain ⟨d5, i5, hKn5⟩ := u_known (C := RX6) (T := TX6) (N := 11) (n := 11) hts gl_X6 (hts0 (.instantiable RX6 11) (List.mem_of_getElem? (i := 387) (by decide +kernel)))
  obtain ⟨d6, i6, hKn6⟩ := u_known (C := RX7) (T := TX7) (N := 12) (n := 12) hts gl_X7 (hts0 (.instantiable RX7 12) (List.mem_of_getElem? (i := 254) (by decide +kernel)))
  obtain ⟨d7, i7, hKn7⟩ := u_known (C := RX8) (T := TX8) (N := 12) (n := 12) hts gl_X8 (hts0 (.instantiable RX8 12) (List.mem_of_getElem? (i := 179) (by decide +kernel)))
  obtain ⟨d8, i8, hKn8⟩ := u_known (C := RX9) (T := TX9) (N := 11) (n := 11) hts gl_X9 (hts0 (.instantiable RX9 11) (List.mem_of_getElem? (i := 431) (by decide +kernel)))
  obtain ⟨d9, i9, hKn9⟩ := u_known (C := RX12) (T := TX12) (N := 16) (n := 16) hts gl_X12 (hts0 (.instantiable RX12 16) (List.mem_of_getElem? (i := 171) (by decide +kernel)))
  obtain ⟨d10, i10, hKn10⟩ := u_known (C := RX13) (T := TX13) (N := 42) (n := 42) hts gl_X13C (hts0 (.instantiable RX13 42) (List.mem_of_getElem? (i := 1522) (by decide +kernel)))
  obtain ⟨D, hKc⟩ : ∃ D : va_G, ∀ (k : Nat) (q : vw_C), vwCl[k]? = some q → u_Kn s q.1 q.2.1 q.2.2 (D.1 k) (D.2 k) := by
    refine ⟨(fun k => ([d0, d1, d2, d3, d4, d5, d6, d7, d8, d9, d10] : List ClassId).getD k d0, fun k => ([i0, i1, i2, i3, i4, i5, i6, i7, i8, i9, i10] : List (Nat → Nat)).getD k i0), ?_⟩
    intro k q hq
    match k, hq with
    | 0, hq => cases hq; exact hKn0
    | 1, hq => cases hq; exact hKn1
    | 2, hq => cases hq; exact hKn2
    | 3, hq => cases hq; exact hKn3
    | 4, hq => cases hq; exact hKn4
    | 5, hq => cases hq; exact hKn5
    | 6, hq => cases hq; exact hKn6
    | 7, hq => cases hq; exact hKn7
    | 8, hq => cases hq; exact hKn8
    | 9, hq => cases hq; exact hKn9
    | 10, hq => cases hq; exact hKn10
    | k + 11, hq => simp [vwCl] at hq
  obtain ⟨k0, hk0⟩ := p_arrP (ty := .char) (by intro C h; cases h) (hts0 (.arrayClass .char) (List.mem_of_getElem? (i := 227) (by decide +kernel)))
  obtain ⟨k1, hk1⟩ := p_arrP (ty := .int) (by intro C h; cases h) (hts0 (.arrayClass .int) (List.mem_of_getElem? (i := 228) (by decide +kernel)))
  obtain ⟨k2, hk2⟩ := p_arrP (ty := .long) (by intro C h; cases h) (hts0 (.arrayClass .long) (List.mem_of_getElem? (i := 229) (by decide +kernel)))
  obtain ⟨k3, hk3⟩ := p_arrP (ty := .boolean) (by intro C h; cases h) (hts0 (.arrayClass .boolean) (List.mem_of_getElem? (i := 1699) (by decide +kernel)))
  have hN : pN s := ⟨va_Nw.of rfl (hts0 (.methodLinkNest "RiverVows" 9 yX8_init "RiverVows") (List.mem_of_getElem? (i := 180) (by decide +kernel))), va_Nw.of rfl (hts0 (.methodLinkNest "RiverVows$Land" 26 yX2_init "RiverVows") (List.mem_of_getElem? (i := 240) (by decide +kernel))), va_Nw.of rfl (hts0 (.methodLinkNest "RiverVows$Land" 40 yX7_init "RiverVows") (List.mem_of_getElem? (i := 255) (by decide +kernel))), va_AO.of (hts0 (.arrayOver (.object "RiverVows$Standing")) (List.mem_of_getElem? (i := 484) (by decide +kernel))), va_AO.of (hts0 (.arrayOver (.object "RiverVows$River")) (List.mem_of_getElem? (i := 237) (by decide +kernel))), va_Nw.of rfl (hts0 (.declares ⟨"RiverVows$Ways", "begin", "()V"⟩) (List.mem_of_getElem? (i := 1263) (by decide +kernel))), va_Nw.of rfl (hts0 (.declares ⟨"RiverVows$Ways", "note", "(II)V"⟩) (List.mem_of_getElem? (i := 1276) (by decide +kernel))), va_Nw.of rfl (hts0 (.declares ⟨"RiverVows$Ways", "end", "()V"⟩) (List.mem_of_getElem? (i := 1293) (by decide +kernel)))⟩
  obtain ⟨k4, hk4⟩ := p_arrO hN.2.2.2.1
  obtain ⟨k5, hk5⟩ := p_arrO hN.2.2.2.2.1
  obtain ⟨k, hk⟩ : ∃ k : Nat → ClassId, k = fun i => ([k0, k1, k2, k3, k4, k5] : List ClassId).getD i k0 := ⟨_, rfl⟩
  have hK : va_K D vwCl (pT k) s := by
    refine ⟨hKc, ?_⟩
    subst hk
    intro j q hq
    match j, hq with
    | 0, hq => cases hq; exact hk0
    | 1, hq => cases hq; exact hk1
    | 2, hq => cases hq; exact hk2
    | 3, hq => cases hq; exact hk3
    | 4, hq => cases hq; exact hk4
    | 5, hq => cases hq; exact hk5
    | j + 6, hq => simp at hq
  have hfl := flat_of_before _ hgv
  have hnA : ∀ a : Nat, a < s.heap.size → ¬ A a := fun a h h2 => absurd (hAf a h2) (Nat.not_le.mpr h)
  have hZ1 : vx_Zq Bundle.tN "UNASSIGNED_STACK" Bundle.steD A s s.heap := vx_Zqof (hts0 (.laysStatic "java/lang/Throwable" "UNASSIGNED_STACK" "[Ljava/lang/StackTraceElement;") (List.mem_of_getElem? (i := 1465) (by decide +kernel))) (hts0 (.initialized "java/lang/Throwable") (List.mem_of_getElem? (i := 165) (by decide +kernel))) (hfl _ (by decide +kernel)) hnA
  have hZ2 : vx_Zq Bundle.tN "SUPPRESSED_SENTINEL" Bundle.listD A s s.heap := vx_Zqof (hts0 (.laysStatic "java/lang/Throwable" "SUPPRESSED_SENTINEL" "Ljava/util/List;") (List.mem_of_getElem? (i := 1467) (by decide +kernel))) (hts0 (.initialized "java/lang/Throwable") (List.mem_of_getElem? (i := 165) (by decide +kernel))) (hfl _ (by decide +kernel)) hnA
  obtain ⟨sa1, -, -, -, hsa1, -⟩ := Cond.exactly_spec (hfl (.exactly (.string "RiverVows" 193) "java/lang/String") (by decide +kernel))
  obtain ⟨sa2, -, -, -, hsa2, -⟩ := Cond.exactly_spec (hfl (.exactly (.string "RiverVows" 351) "java/lang/String") (by decide +kernel))
  have hX1 : pX 193 "no such river, or nothing such of it" sa1 A s := ⟨hZ1, hZ2, vk_R.of (hts0 (.stringRef "RiverVows" 193 "no such river, or nothing such of it") (List.mem_of_getElem? (i := 1477) (by decide +kernel))) hsa1, va_Nw.of rfl (hts0 (.castable "java/util/NoSuchElementException" "java/util/NoSuchElementException") (List.mem_of_getElem? (i := 1440) (by decide +kernel))), va_Nw.of rfl (hts0 (.declares ⟨"java/lang/RuntimeException", "<init>", "(Ljava/lang/String;)V"⟩) (List.mem_of_getElem? (i := 1442) (by decide +kernel))), va_Nw.of rfl (hts0 (.declares ⟨"java/lang/Exception", "<init>", "(Ljava/lang/String;)V"⟩) (List.mem_of_getElem? (i := 1444) (by decide +kernel))), va_Nw.of rfl (hts0 (.declares ⟨"java/lang/Throwable", "<init>", "(Ljava/lang/String;)V"⟩) (List.mem_of_getElem? (i := 1446) (by decide +kernel)))⟩
  have hX2 : pX 351 "no such town, or nothing such of it" sa2 A s := ⟨hZ1, hZ2, vk_R.of (hts0 (.stringRef "RiverVows" 351 "no such town, or nothing such of it") (List.mem_of_getElem? (i := 1514) (by decide +kernel))) hsa2, hX1.2.2.2⟩
  have hS : va_S A s.heap s.heap [] := va_S.rf
  have hP : va_P D vwCl [] s.heap := fun k q h => by simp at h
  have hD : va_D A [] := ⟨fun i j p q h => by simp at h, fun k q h => by simp at h⟩
  have hl := lv_entry ([.ref b]) (n := 7) (Nat.le_of_ble_eq_true rfl)
  rw [lg_entry_eq]
  generalize (lg_sl ([.ref b]) ++ List.replicate (7 - (lg_sl ([.ref b])).length) Slot.unset).toArray = ls at hl ⊢
  have hl : lv_has ls 7 [(0, .ref b)] := hl
  obtain ⟨z, hz⟩ := zs_start (A := A) hts0 hgv hnA
  have hNz : fN z A s s.heap := ⟨hN, hz⟩
  have cl8 := hts0 (.classLink RL 8 RX12) (List.mem_of_getElem? (i := 170) (by decide +kernel))
  have isX12 := hts0 (.instantiable RX12 16) (List.mem_of_getElem? (i := 171) (by decide +kernel))
  have iniX12 := hts0 (.initialized RX12) (List.mem_of_getElem? (i := 143) (by decide +kernel))
  have imX12_init := hts0 (.instanceMethod yX12_init) (List.mem_of_getElem? (i := 173) (by decide +kernel))
  have ml18 := hts0 (.methodLink RL 18 yX12_init) (List.mem_of_getElem? (i := 172) (by decide +kernel))
  have cl19 := hts0 (.classLink RL 19 RX13) (List.mem_of_getElem? (i := 1524) (by decide +kernel))
  have isX13 := hts0 (.instantiable RX13 42) (List.mem_of_getElem? (i := 1522) (by decide +kernel))
  have iniX13 := hts0 (.initialized RX13) (List.mem_of_getElem? (i := 154) (by decide +kernel))
  have imX13_init := hts0 (.instanceMethod yX13_init) (List.mem_of_getElem? (i := 1526) (by decide +kernel))
  have ml21 := hts0 (.methodLink RL 21 yX13_init) (List.mem_of_getElem? (i := 1525) (by decide +kernel))
  have acJ := hts0 (.arrayClass .long) (List.mem_of_getElem? (i := 229) (by decide +kernel))
  refine va_new (ci := 9) (fs := [.null, .null, .null, .null, .null, .null, .null, .null, .null, .null, .null, .null, .null, .int 0, .int 0, .int 0]) (C := RX12) (T := TX12) (N := 16) hx hb hts gl_X12 tyX12 tyX12_ok hown cl8 isX12 iniX12 hK hP hD hS hA rfl (fun j hj => by match j, hj with | 0, _ => rfl | 1, _ => rfl | 2, _ => rfl | 3, _ => rfl | 4, _ => rfl | 5, _ => rfl | 6, _ => rfl | 7, _ => rfl | 8, _ => rfl | 9, _ => rfl | 10, _ => rfl | 11, _ => rfl | 12, _ => rfl | 13, _ => rfl | 14, _ => rfl | 15, _ => rfl | n + 16, h => exact absurd h (by omega)) (by decide) (by decide) dL_law_0 (fun qc H hP hD hS => ?_)
  have hP : va_P D vwCl (([(qc, .inr (9, [.null, .null, .null, .null, .null, .null, .null, .null, .null, .null, .null, .null, .null, .int 0, .int 0, .int 0]))] : va_W) ++ []) H := hP
  have hD : va_D A (([(qc, .inr (9, [.null, .null, .null, .null, .null, .null, .null, .null, .null, .null, .null, .null, .null, .int 0, .int 0, .int 0]))] : va_W) ++ []) := hD
  refine W.widen (k := 1) (n := 16) (by decide) (by decide) ?_
  refine lv_dup hx hb dL_law_3 rfl ?_
  refine f_lawX (w1 := [(qc, .inr (9, [.null, .null, .null, .null, .null, .null, .null, .null, .null, .null, .null, .null, .null, .int 0, .int 0, .int 0]))]) (w2 := []) (va_runI (As := []) (rest := [.ref qc]) ⟨hx, hb, hml, hown, hts⟩ (c_RiverVows_init l D k _ qc z) (cwI 0 hts good_RiverVows_init rfl rfl rfl iniX12 ml18 imX12_init rfl (by decide +kernel) ⟨Nat.le_of_ble_eq_true rfl, Nat.le_of_ble_eq_true rfl⟩) (pS1 hK hN hP hD) rfl rfl hl.1 rfl (lv_room (Nat.le_of_ble_eq_true rfl)) dL_law_4 ⟨by decide, by decide⟩) hP hD hS hA (fun u H locs hu hP hD hS => ?_)
  have gP : va_P D vwCl (f_w shC k u.1 (cH u.2 (fun _ _ => 0) cv0)) H := f_P1 hP
  have gD : va_D A (f_w shC k u.1 (cH u.2 (fun _ _ => 0) cv0)) := f_D1 hD
  have hq : u.1 0 = qc := hu.1
  have hqz : ∀ i, 238 ≤ i → u.1 i = z i := hu.2.1
  have hRC : RC 0 u.2 := hu.2.2.1
  have h16 : u.2 1 6 = 0 := hu.2.2.2.1
  have hk0 : ∀ m, m < 4 → (u.2 (206 + 8 * m) 10).toInt = 0 := by
    obtain ⟨G, hG⟩ := hu.2.2.2.2
    rw [hG]
    exact rv_mk G
  have hc0 : CLI 22 (fun _ => 0) u.2 := by
    obtain ⟨G, hG⟩ := hu.2.2.2.2
    rw [hG]
    exact rv_li G
  clear hu
  generalize u.1 = qC at gP gD hq hqz
  generalize u.2 = aC at gP gD hRC h16 hk0 hc0
  have gS := hS
  subst hq
  have hP := gP
  have hD := gD
  have hS := gS
  obtain ⟨hC, hhC⟩ : ∃ hC, hC = cH aC (fun _ _ => 0) cv0 := ⟨_, rfl⟩
  obtain ⟨wC, hwC⟩ : ∃ wC, wC = f_w shC k qC hC := ⟨_, rfl⟩
  rw [← hhC, ← hwC] at hP hD
  refine W.widen (k := 238) (n := 11611) (by decide) (by decide) ?_
  refine lv_astore_n (lv' := [(1, .ref (qC 0)), (0, .ref b)]) hx hb dL_law_7 rfl hl (by decide) rfl (fun ls hl => ?_)
  refine va_new (ci := 10) (fs := [.int 0, .null, .int 0, .int 0, .null, .null, .null, .int 0, .int 0, .null, .null, .null, .null, .int 0, .null, .null, .int 0, .int 0, .null, .null, .null, .null, .null, .int 0, .null, .int 0, .null, .int 0, .int 0, .int 0, .int 0, .null, .null, .null, .null, .null, .int 0, .int 0, .null, .null, .null, .long 0]) (C := RX13) (T := TX13) (N := 42) hx hb hts gl_X13C tyX13 tyX13_ok hown cl19 isX13 iniX13 hK hP hD hS hA rfl (fun j hj => by match j, hj with | 0, _ => rfl | 1, _ => rfl | 2, _ => rfl | 3, _ => rfl | 4, _ => rfl | 5, _ => rfl | 6, _ => rfl | 7, _ => rfl | 8, _ => rfl | 9, _ => rfl | 10, _ => rfl | 11, _ => rfl | 12, _ => rfl | 13, _ => rfl | 14, _ => rfl | 15, _ => rfl | 16, _ => rfl | 17, _ => rfl | 18, _ => rfl | 19, _ => rfl | 20, _ => rfl | 21, _ => rfl | 22, _ => rfl | 23, _ => rfl | 24, _ => rfl | 25, _ => rfl | 26, _ => rfl | 27, _ => rfl | 28, _ => rfl | 29, _ => rfl | 30, _ => rfl | 31, _ => rfl | 32, _ => rfl | 33, _ => rfl | 34, _ => rfl | 35, _ => rfl | 36, _ => rfl | 37, _ => rfl | 38, _ => rfl | 39, _ => rfl | 40, _ => rfl | 41, _ => rfl | n + 42, h => exact absurd h (by omega)) (by decide) (by decide) dL_law_8 (fun qm H hP hD hS => ?_)
  obtain ⟨hP, hD⟩ := f_sw (w2 := [(qm, .inr (10, [.int 0, .null, .int 0, .int 0, .null, .null, .null, .int 0, .int 0, .null, .null, .null, .null, .int 0, .null, .null, .int 0, .int 0, .null, .null, .null, .null, .null, .int 0, .null, .int 0, .null, .int 0, .int 0, .int 0, .int 0, .null, .null, .null, .null, .null, .int 0, .int 0, .null, .null, .null, .long 0]))]) hP hD
  refine W.widen (k := 239) (n := 11653) (by decide) (by decide) ?_
  refine lv_dup hx hb dL_law_11 rfl ?_
  refine f_lawX (w1 := [(qm, .inr (10, [.int 0, .null, .int 0, .int 0, .null, .null, .null, .int 0, .int 0, .null, .null, .null, .null, .int 0, .null, .null, .int 0, .int 0, .null, .null, .null, .null, .null, .int 0, .null, .int 0, .null, .int 0, .int 0, .int 0, .int 0, .null, .null, .null, .null, .null, .int 0, .int 0, .null, .null, .null, .long 0]))]) (w2 := wC) (va_runI (As := []) (rest := [.ref qm]) ⟨hx, hb, hml, hown, hts⟩ (c_Model_init l D k _ qm z) (cwI 0 hts good_Model_init rfl rfl rfl iniX13 ml21 imX13_init rfl (by decide +kernel) ⟨Nat.le_of_ble_eq_true rfl, Nat.le_of_ble_eq_true rfl⟩) (mi_pre hK hNz hP hD hS hA) rfl rfl hl.1 rfl (lv_room (Nat.le_of_ble_eq_true rfl)) dL_law_12 ⟨by decide, by decide⟩) hP hD hS hA (fun u H locs hu hP hD hS => ?_)
  have jP : va_P D vwCl (f_w shM k u.1 (mH u.2.1 u.2.2) ++ wC) H := hP
  have jD : va_D A (f_w shM k u.1 (mH u.2.1 u.2.2) ++ wC) := hD
  have hq : u.1 0 = qm := hu.1
  have hqz2 : ∀ i, 26 ≤ i → u.1 i = z i := hu.2.1
  have hIM : IM 0 u.2.1 := hu.2.2.1
  have h2 : u.2.1 0 2 = 0 := hu.2.2.2.1
  have hMW : MW u.2.2 := hu.2.2.2.2.1
  have hm0 : ∀ m, m < 4 → (u.2.1 16 m).toInt = 0 := hu.2.2.2.2.2.1
  have hl0 : LRL (fun _ => 0) u.2.1 := hu.2.2.2.2.2.2
  clear hu
  generalize u.1 = qM at jP jD hq hqz2
  generalize u.2.1 = aM at jP jD hIM h2 hm0 hl0
  generalize u.2.2 = bM at jP jD hMW
  have jS := hS
  subst hq
  have hP := jP
  have hD := jD
  have hS := jS
  obtain ⟨hP, hD⟩ := f_sw hP hD
  obtain ⟨hM, hhM⟩ : ∃ hM, hM = mH aM bM := ⟨_, rfl⟩
  obtain ⟨wM, hwM⟩ : ∃ wM, wM = f_w shM k qM hM := ⟨_, rfl⟩
  rw [← hhM, ← hwM] at hP hD
  refine W.widen (k := 264) (n := 37829) (by decide) (by decide) ?_
  refine lv_astore_n (lv' := [(2, .ref (qM 0)), (1, .ref (qC 0)), (0, .ref b)]) hx hb dL_law_15 rfl hl (by decide) rfl (fun ls hl => ?_)
  refine lv_iconst (v := 1) hx hb dL_law_16 (by decide) ?_
  refine p_newa (atype := .long) (ty := .long) (N' := 1) (a0 := (1, .inr (.inl (fun _ => 0)))) hx hb acJ rfl hK hP hD hS hA 2 rfl (fun _ => rfl) (by decide +kernel) (by decide +kernel) (by decide +kernel) (Nat.le_of_ble_eq_true rfl) (Nat.le_of_ble_eq_true rfl) dL_law_17 (fun out H hP hD hS => ?_)
  have hP : va_P D vwCl (wC ++ wM ++ lw_o k out (fun _ => 0)) H := hP
  have hD : va_D A (wC ++ wM ++ lw_o k out (fun _ => 0)) := hD
  refine W.widen (k := 265) (n := 37830) (by decide) (by decide) ?_
  refine lv_astore_n (lv' := [(3, .ref out), (2, .ref (qM 0)), (1, .ref (qC 0)), (0, .ref b)]) hx hb dL_law_19 rfl hl (by decide) rfl (fun ls hl => ?_)
  refine lv_iconst (v := 0) hx hb dL_law_20 (by decide) ?_
  refine lv_istore (lv' := [(4, .int 0), (3, .ref out), (2, .ref (qM 0)), (1, .ref (qC 0)), (0, .ref b)]) hx hb dL_law_21 hl (by decide) rfl (fun ls hl => ?_)
  rw [List.append_assoc, hwC, hwM, hhC, hhM] at hP hD
  have I : lw_In p s m meth c b L xs A D k qC qM := ⟨C0, hts, hK, fN.co (fun i hi => hqz i (by omega)) hNz, fN.co (fun i hi => hqz2 i (by omega)) hNz, hA, hAf⟩
  exact lw_loop I hL hst hX1 hX2 512 0 265 37830 aC (fun _ _ => 0) cv0 aM bM (fun _ => 0) H _ ls (by omega) (by omega) (by omega) ⟨⟨hRC, VC0⟩, hIM, TR.start hMW h16 h2 (fun m hm => ⟨fun _ => hm0 m hm, fun _ => hk0 m hm⟩) ⟨22, fun _ => 0, rfl, Or.inl rfl, hc0, hl0, GV.zero, fun w9 h9 => absurd h9 (by show ¬ (w9 : Int) < 0; omega)⟩⟩ ⟨hP, hD, hS⟩ hl
