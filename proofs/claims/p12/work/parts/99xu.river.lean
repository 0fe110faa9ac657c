theorem dX12_river_18 : decode cX12_river 18 = .ok (.new 191, 3) := by decide +kernel
theorem dX12_river_22 : decode cX12_river 22 = .ok (.ldc 193, 2) := by decide +kernel
theorem dX12_river_24 : decode cX12_river 24 = .ok (.invokespecial 195, 3) := by decide +kernel
theorem dX12_river_27 : decode cX12_river 27 = .ok (.athrow, 1) := by decide +kernel
theorem dX12_worst_17 : decode cX12_worst 17 = .ok (.new 191, 3) := by decide +kernel
theorem dX12_worst_21 : decode cX12_worst 21 = .ok (.ldc_w 351, 3) := by decide +kernel
theorem dX12_worst_24 : decode cX12_worst 24 = .ok (.invokespecial 195, 3) := by decide +kernel
theorem dX12_worst_27 : decode cX12_worst 27 = .ok (.athrow, 1) := by decide +kernel
abbrev p_thr : List Cond := (p_own RX12 195 13 prog_32_method_4_code "java/util/NoSuchElementException" "java/lang/RuntimeException" ["java/lang/Exception"]).filter vx_no
def pX (is : Nat) (tx : String) (sa : Nat) (A : Nat → Prop) (U : State) : Prop := vx_Zq Bundle.tN "UNASSIGNED_STACK" Bundle.steD A U U.heap ∧ vx_Zq Bundle.tN "SUPPRESSED_SENTINEL" Bundle.listD A U U.heap ∧ vk_R RX12 is tx sa U ∧ va_Nw (.castable "java/util/NoSuchElementException" "java/util/NoSuchElementException") U ∧ va_Nw (.declares (Bundle.initS "java/lang/RuntimeException")) U ∧ va_Nw (.declares (Bundle.initS "java/lang/Exception")) U ∧ va_Nw (.declares (Bundle.initS Bundle.tN)) U
theorem pX.to {is : Nat} {tx : String} {sa : Nat} {A A2 : Nat → Prop} {s U : State} {H : Heap} {locs : List Loc} (h : pX is tx sa A s) (hS : va_S A s.heap H locs) (hU : U.heap = H) (hW : s.WarmedH U.vm) (hAA : ∀ q, A2 q → A q) : pX is tx sa A2 U := by
  obtain ⟨h1, h2, h3, h4, h5, h6, h7⟩ := h
  refine ⟨?_, ?_, h3.warm hW, va_Nw.warmC hW h4, va_Nw.warmD hW h5, va_Nw.warmD hW h6, va_Nw.warmD hW h7⟩
  · rw [hU]; exact vx_Zq.narrow (vx_Zq.moved hW.alike (h1.kept hS.2.1)) hAA
  · rw [hU]; exact vx_Zq.narrow (vx_Zq.moved hW.alike (h2.kept hS.2.1)) hAA
theorem pX.blind {is : Nat} {tx : String} {sa : Nat} {A : Nat → Prop} {U : State} {g : JFrame} {mk : MethodId} {a : Array Value} (h : pX is tx sa A U) : pX is tx sa A (U.calling g mk a) := by
  obtain ⟨h1, h2, h3, h4, h5, h6, h7⟩ := h
  exact ⟨vx_Zq.moved (u := U) (U := U.calling g mk a) (Vm.Alike.refl U.vm) h1, vx_Zq.moved (u := U) (U := U.calling g mk a) (Vm.Alike.refl U.vm) h2, vk_R.same (u := U) (U := U.calling g mk a) rfl h3, va_Nw.same (u := U) (U := U.calling g mk a) rfl rfl h4, va_Nw.same (u := U) (U := U.calling g mk a) rfl rfl h5, va_Nw.same (u := U) (U := U.calling g mk a) rfl rfl h6, va_Nw.same (u := U) (U := U.calling g mk a) rfl rfl h7⟩
theorem p_thr_no : ∀ w ∈ p_thr.filter (fun w => !goodWord w), w ∈ [Cond.castable "java/util/NoSuchElementException" "java/util/NoSuchElementException", Cond.declares (Bundle.initS "java/lang/RuntimeException"), Cond.declares (Bundle.initS "java/lang/Exception"), Cond.declares (Bundle.initS Bundle.tN)] := by decide +kernel
theorem p_thr_ot (is : Nat) : ∀ w ∈ Cond.classLink RX12 191 "java/util/NoSuchElementException" :: Cond.initialized "java/util/NoSuchElementException" :: p_thr, vx_ot w = true := by decide +kernel

theorem lr_0 : (.methodLink RX12 154 yX12_isRiver : Cond) ∈ gT := gT_of (List.mem_of_getElem? (i := 1043) (by decide +kernel)) rfl
theorem lr_1 : (.instanceMethod yX12_isRiver : Cond) ∈ gT := gT_of (List.mem_of_getElem? (i := 1045) (by decide +kernel)) rfl
theorem lr_2 : (.selects RX12 yX12_isRiver yX12_isRiver : Cond) ∈ gT := gT_of (List.mem_of_getElem? (i := 47) (by decide +kernel)) rfl
theorem lr_3 : (.initialized RX12 : Cond) ∈ gT := gT_of (List.mem_of_getElem? (i := 143) (by decide +kernel)) rfl
theorem lr_4 : (.code yX12_isRiver cX12_isRiver 2 (some .boolean) : Cond) ∈ gT := gT_of (List.mem_of_getElem? (i := 1046) (by decide +kernel)) rfl
theorem lr_5 : (.classLink RX12 191 "java/util/NoSuchElementException" : Cond) ∈ gT := gT_of (List.mem_of_getElem? (i := 1438) (by decide +kernel)) rfl
theorem lr_6 : (.initialized "java/util/NoSuchElementException" : Cond) ∈ gT := gT_of (List.mem_of_getElem? (i := 168) (by decide +kernel)) rfl
theorem lr_7 : (.methodLink RL 7 yX12_river : Cond) ∈ gT := gT_of (List.mem_of_getElem? (i := 1434) (by decide +kernel)) rfl
theorem lr_8 : (.instanceMethod yX12_river : Cond) ∈ gT := gT_of (List.mem_of_getElem? (i := 1435) (by decide +kernel)) rfl
theorem lr_9 : (.selects RX12 yX12_river yX12_river : Cond) ∈ gT := gT_of (List.mem_of_getElem? (i := 1436) (by decide +kernel)) rfl
theorem lr_10 : (.code yX12_river cX12_river 4 (some .int) : Cond) ∈ gT := gT_of (List.mem_of_getElem? (i := 1437) (by decide +kernel)) rfl
theorem lr_11 : (.classLink RL 13 "java/util/NoSuchElementException" : Cond) ∈ gT := gT_of (List.mem_of_getElem? (i := 1433) (by decide +kernel)) rfl
theorem lr_12 : (.methodLink RX12 348 yX12_hasTown : Cond) ∈ gT := gT_of (List.mem_of_getElem? (i := 1359) (by decide +kernel)) rfl
theorem lr_13 : (.instanceMethod yX12_hasTown : Cond) ∈ gT := gT_of (List.mem_of_getElem? (i := 1361) (by decide +kernel)) rfl
theorem lr_14 : (.selects RX12 yX12_hasTown yX12_hasTown : Cond) ∈ gT := gT_of (List.mem_of_getElem? (i := 67) (by decide +kernel)) rfl
theorem lr_15 : (.code yX12_hasTown cX12_hasTown 2 (some .boolean) : Cond) ∈ gT := gT_of (List.mem_of_getElem? (i := 1362) (by decide +kernel)) rfl
theorem lr_16 : (.methodLink RL 15 yX12_worst : Cond) ∈ gT := gT_of (List.mem_of_getElem? (i := 1510) (by decide +kernel)) rfl
theorem lr_17 : (.instanceMethod yX12_worst : Cond) ∈ gT := gT_of (List.mem_of_getElem? (i := 1511) (by decide +kernel)) rfl
theorem lr_18 : (.selects RX12 yX12_worst yX12_worst : Cond) ∈ gT := gT_of (List.mem_of_getElem? (i := 1512) (by decide +kernel)) rfl
theorem lr_19 : (.code yX12_worst cX12_worst 6 (some .int) : Cond) ∈ gT := gT_of (List.mem_of_getElem? (i := 1513) (by decide +kernel)) rfl
theorem lr_20 : (.methodLink RL 47 yX13_river : Cond) ∈ gT := gT_of (List.mem_of_getElem? (i := 1822) (by decide +kernel)) rfl
theorem lr_21 : (.instanceMethod yX13_river : Cond) ∈ gT := gT_of (List.mem_of_getElem? (i := 1823) (by decide +kernel)) rfl
theorem lr_22 : (.selects RX13 yX13_river yX13_river : Cond) ∈ gT := gT_of (List.mem_of_getElem? (i := 1824) (by decide +kernel)) rfl
theorem lr_23 : (.initialized RX13 : Cond) ∈ gT := gT_of (List.mem_of_getElem? (i := 154) (by decide +kernel)) rfl
theorem lr_24 : (.code yX13_river cX13_river 3 (some .int) : Cond) ∈ gT := gT_of (List.mem_of_getElem? (i := 1825) (by decide +kernel)) rfl
theorem lr_25 : (.methodLink RL 42 yL_river : Cond) ∈ gT := gT_of (List.mem_of_getElem? (i := 1430) (by decide +kernel)) rfl
theorem lr_26 : (.static yL_river : Cond) ∈ gT := gT_of (List.mem_of_getElem? (i := 1431) (by decide +kernel)) rfl
theorem lr_27 : (.initialized RL : Cond) ∈ gT := gT_of (List.mem_of_getElem? (i := 142) (by decide +kernel)) rfl
theorem lr_28 : (.codeWith yL_river cL_river 5 (some .int) [(0, 10, 13, 13)] : Cond) ∈ gT := gT_of (List.mem_of_getElem? (i := 1432) (by decide +kernel)) rfl
theorem lr_29 : (.methodLink RL 130 yX13_worst : Cond) ∈ gT := gT_of (List.mem_of_getElem? (i := 2085) (by decide +kernel)) rfl
theorem lr_30 : (.instanceMethod yX13_worst : Cond) ∈ gT := gT_of (List.mem_of_getElem? (i := 2086) (by decide +kernel)) rfl
theorem lr_31 : (.selects RX13 yX13_worst yX13_worst : Cond) ∈ gT := gT_of (List.mem_of_getElem? (i := 2087) (by decide +kernel)) rfl
theorem lr_32 : (.code yX13_worst cX13_worst 7 (some .int) : Cond) ∈ gT := gT_of (List.mem_of_getElem? (i := 2088) (by decide +kernel)) rfl
theorem lr_33 : (.methodLink RL 128 yL_worst : Cond) ∈ gT := gT_of (List.mem_of_getElem? (i := 1507) (by decide +kernel)) rfl
theorem lr_34 : (.static yL_worst : Cond) ∈ gT := gT_of (List.mem_of_getElem? (i := 1508) (by decide +kernel)) rfl
theorem lr_35 : (.codeWith yL_worst cL_worst 5 (some .int) [(0, 10, 13, 13)] : Cond) ∈ gT := gT_of (List.mem_of_getElem? (i := 1509) (by decide +kernel)) rfl
set_option maxRecDepth 20000 in
theorem wl_thr0 : ∀ w ∈ p_thr.filter goodWord, w ∈ lw_tbl := by decide +kernel
theorem wl_thr : ∀ w ∈ p_thr.filter goodWord, w ∈ gT := fun w h => gT_of (wl_thr0 w h) (List.mem_filter.mp h).2
abbrev rv_w (k : Nat → ClassId) (q : Nat → Nat) (a : Nat → Nat → Int32) (b : Nat → Nat → Int64) (v : Nat → Option Nat) : va_W := f_w shC k q (cH a b v)
theorem shC0 : shC[0]? = some (.inr (9, [2, 2, 2, 2, 2, 2, 2, 2, 2, 2, 2, 2, 2, 0, 0, 0])) := rfl
section RV
variable {p : Program} {l : Launch} {e : Env} {R : Room} {s : State} {m : MethodId} {args : Array Value} {below : List Frame} {meth : Method} {c : Code} {H : Heap} {locs : List Loc} {cells slots : Nat} {Q : State → Prop}
theorem f_lawG {D : va_G} {A : Nat → Prop} {w1 w2 w3 : va_W} {v : Option Value} {a : Array Value} {pc mc ms : Nat} {ls : Array Slot} {rest st0 : List Value} (hA : ∀ q : Nat, s.heap.size ≤ q → A q) (hP : va_P D vwCl (w1 ++ w2) H) (hD : va_D A (w1 ++ w2)) (hS : va_S A s.heap H locs)
    (hr : va_Run p l e R s m args below meth c H locs cells slots mc ms (F0 m pc ls st0) rest (f_Q D w1 H.size w3 v a) (va_A w1 H.size))
    (kk : ∀ (H1 : Heap) (locs1 : List Loc), va_P D vwCl (w3 ++ w2) H1 → va_D A (w3 ++ w2) → va_S A s.heap H1 locs1 → W p l e R s m args below meth c H1 locs1 (cells + mc) (slots + ms) Q (F0 m (pc + 3) ls (v.toList ++ rest))) : W p l e R s m args below meth c H locs cells slots Q (F0 m pc ls st0) := by
  intro T hT X
  have hF := f_in1 hA hD hS
  obtain ⟨v1, st₀, t, T', L, h0, X', hL, e1, e2, ⟨⟨hv, hP1, hD1⟩, hz, hk⟩, st⟩ := hr T hT X
  cases hv
  rw [h0] at hz hk
  rw [← e1] at hP1 hz hk
  obtain ⟨g1, g2⟩ := f_join (H1 := T'.heap) hP hD hk hP1 hD1 hF
  obtain ⟨t2, a1, b1⟩ := kk T'.heap (locs ++ L) g1 g2 ⟨Nat.le_trans hS.1 hz, fun q1 h1 h2 => by rw [hk q1 (Nat.lt_of_lt_of_le h1 hS.1) (fun z => h2 (hF q1 z))]; exact hS.2.1 q1 h1 h2, fun q1 hq => by
      rcases List.mem_append.mp hq with h | h
      · exact hS.2.2 q1 h
      · exact hF _ (hL q1 h)⟩ T' rfl X'
  exact ⟨t2, st t2 a1, b1⟩
theorem f_callG {own : String} {cc : ByteArray} {nL idx : Nat} {A : Nat → Prop} {D : va_G} {k : Nat → ClassId} {q : Nat → Nat} {h : f_H} {w2 : va_W} {pc : Nat} {ls : Array Slot} {st : List Value} (hx : p.tables.exec = Jvm.exec) (hb : c.code = cc) (hml : c.maxLocals = nL) (hown : s.vm.findClass own = some m.cls) (hts : ∀ w ∈ gTC, w.before args s = true) (hK : va_K D vwCl (pT k) s) (hN : fN q A s s.heap) (hA : ∀ q : Nat, s.heap.size ≤ q → A q) {d maxL : Nat} {y : MethodName} {bytes : ByteArray} {rt : Option FieldType} {as : List f_V} {r : Option f_V} {h' : f_H} (hM : f_M l shC gTC y bytes maxL rt (f_room d) (.inr (.inr (some 0)) :: as) h r h') {TT : u_T} {N9 : Nat} (hcl : vwCl[9]? = some (y.cls, TT, N9)) (hy : y.cls = RX12 ∧ (parseMethodDescriptor y.desc).map (fun d => d.parameters.length) = some as.length)
    (hW : ∀ w ∈ [Cond.methodLink own idx y, Cond.instanceMethod y, Cond.selects y.cls y y, Cond.initialized y.cls, Cond.code y bytes maxL rt], w ∈ gT) (hd : d ≤ 40) (hL : maxL ≤ 61) (hR : 41 ≤ R.frames ∧ 4000 ≤ R.locals) (hcs : cells ≤ R.cells ∧ slots ≤ R.slots) (hdg : decode cc pc = .ok (.invokevirtual idx, 3)) (hls : ls.size = nL) {rest : List Value} (hst : st = (as.map (f_v q)).reverse ++ Value.ref (q 0) :: rest) (hrest : (rest.map fun v => v.category).sum ≤ 16) (hP : va_P D vwCl (f_w shC k q h ++ w2) H) (hD : va_D A (f_w shC k q h ++ w2)) (hS : va_S A s.heap H locs)
    (kk : ∀ (H1 : Heap) (locs1 : List Loc), va_P D vwCl (f_w shC k q h' ++ w2) H1 → va_D A (f_w shC k q h' ++ w2) → va_S A s.heap H1 locs1 → W p l e R s m args below meth c H1 locs1 cells slots Q (F0 m (pc + 3) ls ((r.map (f_v q)).toList ++ rest))) : W p l e R s m args below meth c H locs cells slots Q (F0 m pc ls st) := by
  have hM := hM D k q H.size
  have hG : GoodIn gTC (wsV own idx y.cls y (Cond.code y bytes maxL rt :: gTC)) := lw_good (fun _ h => h) hW
  obtain ⟨hR1, hR2⟩ := hR
  have hrun := f_runV (R := R) (p := p) (e := e) (below := below) (meth := meth) (locs := locs) (cells := cells) (slots := slots) (g := F0 m pc ls st) (As := as.map (f_v q)) (rest := rest) (b := q 0) ⟨hx, hb, hml, hown, hts⟩ hM (cwV as.length hts hG rfl rfl rfl ⟨rfl, by rw [hy.1]; decide, by rw [hy.1]; decide, hy.2⟩ ⟨show d + 1 ≤ R.frames by omega, show 8 + (maxL + 11) + 96 * d ≤ R.locals by omega⟩) (show 16 + (maxL + 11) + 96 * d ≤ R.locals by omega)
    ⟨f_Blind, va_recv hK (f_P1 hP) hcl (f_w_get shC0), (f_lpre hK hN hP hD hS hA).2⟩ rfl (by rw [List.length_map]) hls hst (f_room16 hrest) hdg ⟨hcs.1, hcs.2⟩
  exact f_lawW hA hP hD hS hrun kk
end RV
set_option maxHeartbeats 4000000 in
set_option maxRecDepth 100000 in
theorem cx_river (l : Launch) (hst : l.stackTraces = false) (D : va_G) (k : Nat → ClassId) (sz sa : Nat) (q : Nat → Nat) {K : Nat} {a : Nat → Nat → Int32} {b : Nat → Nat → Int64} {v : Nat → Option Nat} {L : Nat} (hR : RC K a) (h0 : v 0 = some L) (hL : L = 22 ∨ L = 46) (p0 p1 : Int32) (hg : ¬ (0 ≤ p0.toInt ∧ p0.toInt < (a L 7).toInt ∧ 0 ≤ p1.toInt ∧ p1.toInt ≤ 8)) : vx_Met l yX12_river (Cond.code yX12_river cX12_river 4 (some .int) :: gTC) ({ frames := 42, cells := 1, slots := 6, locals := 4100 } : Room) (va_Pc [.ref (q 0), .int p0, .int p1] (fun U => f_Pre D k q (rv_w k q a b v) sz U ∧ pX 193 "no such river, or nothing such of it" sa (va_A (rv_w k q a b v) sz) U)) (va_Qi (fun (r : Int32) (u : Unit) => False) (fun _ _ => True) (va_A (rv_w k q a b v) sz)) (vx_X (fun (_ : Unit) => True) (fun E _ t => E = "java/util/NoSuchElementException" ∧ va_P D vwCl (rv_w k q a b v) t.heap) (va_A (rv_w k q a b v) sz)) 1 6 (va_A (rv_w k q a b v) sz) := by
  refine vx_ofW (cc := cX12_river) (maxL := 4) (ret := some .int) (by decide) rfl ?_
  intro p e s m args below meth c s₁ B hml htab hv
  obtain ⟨rfl, ⟨hsz, hP, hK, hN, hD0⟩, hXX⟩ := hv
  have hx := B.exec
  have hb := B.bytes
  have hts0 := atoms_spec (ws := Cond.code yX12_river cX12_river 4 (some .int) :: gTC) B.pre
  have hts : ∀ w ∈ gTC, w.before _ s = true := fun w h => hts0 w (List.mem_cons_of_mem _ h)
  have hown : s.vm.findClass RX12 = some m.cls := findClass_of_methodNamed B.named
  have hlocks := B.notSynchronized
  subst hsz
  have hD := hD0.self (sz := s.heap.size)
  have hA : ∀ q9 : Nat, s.heap.size ≤ q9 → va_A (rv_w k q a b v) s.heap.size q9 := fun q h => Or.inr h
  have hS : va_S (va_A (rv_w k q a b v) s.heap.size) s.heap s.heap [] := va_S.rf
  have hl := lv_entry [.ref (q 0), .int p0, .int p1] (n := 4) (Nat.le_of_ble_eq_true rfl)
  rw [lg_entry_eq]
  generalize (lg_sl [.ref (q 0), .int p0, .int p1] ++ List.replicate (4 - (lg_sl [.ref (q 0), .int p0, .int p1]).length) Slot.unset).toArray = ls at hl ⊢
  have hl : lv_has ls 4 [(0, .ref (q 0)), (1, .int p0), (2, .int p1)] := hl
  refine lv_aload_n hx hb dX12_river_0 rfl (lv_at hl 0 rfl) ?_
  refine lv_iload_n hx hb dX12_river_1 rfl (lv_at hl 1 rfl) ?_
  obtain ⟨r9, h9, hq9, hM9⟩ := f_get (mkC l) mtC_103 (s_X12_isRiver a b v L p0 hR h0 hL)
  obtain ⟨rfl, x9, rfl, hb9, -⟩ := hq9
  refine f_callG (w2 := []) hx hb hml hown hts hK hN hA hM9 (as := [.inl p0]) rfl ⟨rfl, (by decide : (parseMethodDescriptor yX12_isRiver.desc).map (fun d => d.parameters.length) = some 1)⟩ (lw_ws lr_0 lr_1 lr_2 lr_3 lr_4) (by decide) (by decide) ⟨Nat.le_of_ble_eq_true rfl, Nat.le_of_ble_eq_true rfl⟩ ⟨Nat.zero_le _, Nat.zero_le _⟩ dX12_river_2 hl.1 (rest := []) rfl (by decide) (by rw [List.append_nil]; exact hP) (by rw [List.append_nil]; exact hD) hS ?_
  intro H locs hP hD hS
  rw [List.append_nil] at hP hD
  have ck := hts (.classLink RX12 191 "java/util/NoSuchElementException") (gTC_in lr_5)
  have ci := hts (.initialized "java/util/NoSuchElementException") (gTC_in lr_6)
  obtain ⟨hU, hN2, hstr, q4, q5, q6, q7⟩ := hXX
  have hat : ∀ w ∈ p_thr, w.before _ s = true := vx_hat (fun w h => hts w (gTC_in (wl_thr w h))) p_thr_no (vx_c (va_Nw.use rfl q4) (vx_c (va_Nw.use rfl q5) (vx_c (va_Nw.use rfl q6) (vx_c (va_Nw.use rfl q7) vx_n))))
  have T18 : W p l e _ s m _ below meth c H locs 0 0 _ (F0 m 18 ls []) := p_throwS (Qc := va_Qi (fun (r : Int32) (u : Unit) => False) (fun _ _ => True) (va_A (rv_w k q a b v) s.heap.size)) (XC := vx_X (fun (_ : Unit) => True) (fun E _ t => E = "java/util/NoSuchElementException" ∧ va_P D vwCl (rv_w k q a b v) t.heap) (va_A (rv_w k q a b v) s.heap.size)) (mc := 1) (ms := 6) (free := va_A (rv_w k q a b v) s.heap.size) (R := ({ frames := 42, cells := 1, slots := 6, locals := 4100 } : Room)) (by9 := prog_32_method_4_code) (ix := 13) (ic := 195) (Yn := "java/lang/RuntimeException") (names := ["java/lang/Exception"]) (sa := sa) hx hb hst (by decide +kernel) (by decide +kernel) (by decide +kernel) (by decide +kernel) hown (by decide +kernel) (by decide +kernel) (by decide +kernel) ck ci hstr hat (p_thr_ot 0) hU hN2 hS (hl.1.trans hml.symm) dX12_river_18 dX12_river_21 dX12_river_22 dX12_river_24 dX12_river_27 (fun x h => (htab x h).elim) (by decide) (Nat.le_of_ble_eq_true rfl) (Nat.le_of_ble_eq_true rfl) (Nat.le_of_ble_eq_true rfl) hlocks (fun t ha hz hk => ⟨(), trivial, ⟨rfl, fun j z hj => (hP j z hj).kept (hk z.1 (hP j z hj).lt)⟩, Nat.le_trans hS.1 hz, fun q h1 h2 => (hk q (Nat.lt_of_lt_of_le h1 hS.1)).trans (hS.2.1 q h1 h2)⟩) hS.2.2 (Nat.le_refl _) (Nat.le_refl _)
  refine lv_if_eq (tgt := 18) hx hb dX12_river_5 (by decide) (fun _ => T18) (fun h9 => ?_)
  refine lv_iload_n hx hb dX12_river_8 rfl (lv_at hl 2 rfl) ?_
  refine lv_if_lt (tgt := 18) hx hb dX12_river_9 (by decide) (fun _ => T18) (fun h8 => ?_)
  refine lv_iload_n hx hb dX12_river_12 rfl (lv_at hl 2 rfl) ?_
  refine lv_bipush (v := 8) hx hb dX12_river_13 (by decide) ?_
  refine lv_icmp_le (tgt := 28) hx hb dX12_river_15 (by decide) (fun h7 => absurd ?_ hg) (fun _ => T18)
  have e8 : 0 ≤ p1.toInt := by
    by_cases h : p1.toInt < 0
    · exact absurd (Int32.lt_iff_toInt_lt.mpr (show p1.toInt < (0 : Int32).toInt from h)) h8
    · exact Int.not_lt.mp h
  have e7 : p1.toInt ≤ 8 := Int32.le_iff_toInt_le.mp h7
  rcases hb9 with ⟨-, g9⟩ | ⟨g9, -⟩
  · exact ⟨g9.1, g9.2, e8, e7⟩
  · exact absurd (Int32.toInt_inj.mp (show x9.toInt = (0 : Int32).toInt from g9)) h9
theorem dL_river_0 : decode cL_river 0 = .ok (.aload_n 3, 1) := by decide +kernel
theorem dL_river_1 : decode cL_river 1 = .ok (.iconst 0, 1) := by decide +kernel
theorem dL_river_2 : decode cL_river 2 = .ok (.aload_n 0, 1) := by decide +kernel
theorem dL_river_3 : decode cL_river 3 = .ok (.iload_n 1, 1) := by decide +kernel
theorem dL_river_4 : decode cL_river 4 = .ok (.iload_n 2, 1) := by decide +kernel
theorem dL_river_5 : decode cL_river 5 = .ok (.invokevirtual 7, 3) := by decide +kernel
theorem dL_river_8 : decode cL_river 8 = .ok (.i2l, 1) := by decide +kernel
theorem dL_river_9 : decode cL_river 9 = .ok (.lastore, 1) := by decide +kernel
theorem dL_river_10 : decode cL_river 10 = .ok (.goto 7, 3) := by decide +kernel
theorem dL_river_13 : decode cL_river 13 = .ok (.astore 4, 2) := by decide +kernel
theorem dL_river_15 : decode cL_river 15 = .ok (.iconst 1, 1) := by decide +kernel
theorem dL_river_16 : decode cL_river 16 = .ok (.ireturn, 1) := by decide +kernel
theorem dL_river_17 : decode cL_river 17 = .ok (.iconst 0, 1) := by decide +kernel
theorem dL_river_18 : decode cL_river 18 = .ok (.ireturn, 1) := by decide +kernel
set_option maxHeartbeats 4000000 in
set_option maxRecDepth 100000 in
theorem cL_river_thr (l : Launch) (hst : l.stackTraces = false) (D : va_G) (k : Nat → ClassId) (sz sa : Nat) (q : Nat → Nat) {K : Nat} {a : Nat → Nat → Int32} {b : Nat → Nat → Int64} {v : Nat → Option Nat} {L : Nat} (hR : RC K a) (h0 : v 0 = some L) (hL : L = 22 ∨ L = 46) (p0 p1 : Int32) (hg : ¬ (0 ≤ p0.toInt ∧ p0.toInt < (a L 7).toInt ∧ 0 ≤ p1.toInt ∧ p1.toInt ≤ 8)) (out : Nat) (g : Nat → Int64) : Met l yL_river (Cond.codeWith yL_river cL_river 5 (some .int) [(0, 10, 13, 13)] :: gTC) ({ frames := 44, cells := 1, slots := 6, locals := 4200 } : Room) (va_Pc [.ref (q 0), .int p0, .int p1, .ref out] (fun U => f_Pre D k q (lw_o k out g ++ rv_w k q a b v) sz U ∧ pX 193 "no such river, or nothing such of it" sa (va_A (lw_o k out g ++ rv_w k q a b v) sz) U)) (f_Q D (lw_o k out g ++ rv_w k q a b v) sz (lw_o k out g ++ rv_w k q a b v) (some (.int 1))) 1 6 (va_A (lw_o k out g ++ rv_w k q a b v) sz) := by
  refine va_MetW (cc := cL_river) (maxL := 5) (ret := some .int) (hh := [(0, 10, 13, 13)]) (by decide) rfl ?_
  intro p e s m args below meth c s₁ B hml hv
  obtain ⟨rfl, ⟨hsz, hP, hK, hN, hD0⟩, hXX⟩ := hv
  have hx := B.exec
  have hb := B.bytes
  have hr := B.returns
  have hts0 := atoms_spec (ws := Cond.codeWith yL_river cL_river 5 (some .int) [(0, 10, 13, 13)] :: gTC) B.pre
  have hts : ∀ w ∈ gTC, w.before _ s = true := fun w h => hts0 w (List.mem_cons_of_mem _ h)
  have hown : s.vm.findClass RL = some m.cls := findClass_of_methodNamed B.named
  have hlocks := B.notSynchronized
  have htab : c.exceptionTable.toList = tableOf [(0, 10, 13, 13)] := vx_table (x := yL_river) B (hts0 _ List.mem_cons_self)
  subst hsz
  have hD := hD0.self (sz := s.heap.size)
  have hA : ∀ q9 : Nat, s.heap.size ≤ q9 → va_A (lw_o k out g ++ rv_w k q a b v) s.heap.size q9 := fun q h => Or.inr h
  have hS : va_S (va_A (lw_o k out g ++ rv_w k q a b v) s.heap.size) s.heap s.heap [] := va_S.rf
  have hl := lv_entry [.ref (q 0), .int p0, .int p1, .ref out] (n := 5) (Nat.le_of_ble_eq_true rfl)
  rw [lg_entry_eq]
  generalize (lg_sl [.ref (q 0), .int p0, .int p1, .ref out] ++ List.replicate (5 - (lg_sl [.ref (q 0), .int p0, .int p1, .ref out]).length) Slot.unset).toArray = ls at hl ⊢
  have hl : lv_has ls 5 [(0, .ref (q 0)), (1, .int p0), (2, .int p1), (3, .ref out)] := hl
  refine lv_aload_n hx hb dL_river_0 rfl (lv_at hl 3 rfl) ?_
  refine lv_iconst (v := 0) hx hb dL_river_1 (by decide) ?_
  refine lv_aload_n hx hb dL_river_2 rfl (lv_at hl 0 rfl) ?_
  refine lv_iload_n hx hb dL_river_3 rfl (lv_at hl 1 rfl) ?_
  refine lv_iload_n hx hb dL_river_4 rfl (lv_at hl 2 rfl) ?_
  obtain ⟨hP, hD⟩ := f_sw hP hD
  have hF := f_in1 hA hD hS
  refine vx_calli (vx_runV (As := [.int p0, .int p1]) (rest := [.int 0, .ref out]) (b := q 0) ⟨hx, hb, hml, hown, hts⟩ (cx_river l hst D k s.heap.size sa q hR h0 hL p0 p1 hg) (cwV 2 hts (lw_good (fun _ h => h) (lw_ws lr_7 lr_8 lr_9 lr_3 lr_10)) rfl rfl rfl (by decide +kernel) ⟨Nat.le_of_ble_eq_true rfl, Nat.le_of_ble_eq_true rfl⟩) ⟨fun a U g mk z => ⟨z.1, (f_Blind a U g mk ⟨z.1, z.2.1⟩).2, z.2.2.blind⟩, va_recv hK (f_P1 hP) (ci := 9) rfl (f_w_get shC0), fun U hU hW => ⟨rfl, ((f_lpre (av := [.ref (q 0), .int p0, .int p1]) hK hN hP hD hS hA).2 U hU hW).2, hXX.to hS hU hW hF⟩⟩ rfl rfl hl.1 rfl (lv_room (Nat.le_of_ble_eq_true rfl)) dL_river_5 ⟨by decide, by decide⟩) hS (fun q _ h => hF q h) hF (fun q _ h => hF q h) (fun E ce q9 u t H1 locs ht hvm hpx hBX hz1 hk1 hS hce hcv hcl => ?_) (fun r u t H1 locs ht hvm hw hB hz1 hk1 hS => hw.elim)
  obtain ⟨hE, hPX⟩ := hBX
  subst hE
  rw [ht] at hPX
  obtain ⟨hP2, hD2⟩ := f_join hP hD hk1 hPX ((f_D2 hD0).self) hF
  obtain ⟨hP2, hD2⟩ := f_sw hP2 hD2
  have ck := hts (.classLink RL 13 "java/util/NoSuchElementException") (gTC_in lr_11)
  obtain ⟨hU, hN2, hstr, q4, q5, q6, q7⟩ := hXX
  refine vx_catch hown [] _ [] htab (fun z h => nomatch h) (by decide +kernel) (by decide +kernel) ck (va_Nw.use rfl q4) hce hcv hcl ?_
  refine lv_astore (lv' := [(4, .ref q9), (0, .ref (q 0)), (1, .int p0), (2, .int p1), (3, .ref out)]) hx hb dL_river_13 hl (by decide) rfl (fun ls hl => ?_)
  refine lv_iconst (v := 1) hx hb dL_river_15 (by decide) ?_
  exact W.iret (v := 1) hx hb hr (fun t ht hW => ⟨⟨rfl, by rw [ht]; exact hP2, hD2⟩, hS.F ht⟩) hS.2.2 dL_river_16 hlocks
set_option maxHeartbeats 4000000 in
set_option maxRecDepth 100000 in
theorem cL_river_ret (l : Launch) (D : va_G) (k : Nat → ClassId) (sz sa : Nat) (q : Nat → Nat) {K : Nat} {a : Nat → Nat → Int32} {b : Nat → Nat → Int64} {v : Nat → Option Nat} (p0 p1 : Int32) (out : Nat) (g : Nat → Int64) {P : Int32 → (Nat → Nat → Int32) → (Nat → Option Nat) → Prop} (w : f_call mtC 40 111 [.inr (.inr (some 0)), .inl p0, .inl p1] (cH a b v) (QC K P)) : ∃ (a1 : Nat → Nat → Int32) (b1 : Nat → Nat → Int64) (v1 : Nat → Option Nat) (x : Int32), IC (K + 1) a1 v1 ∧ P x a1 v1 ∧ Met l yL_river (Cond.codeWith yL_river cL_river 5 (some .int) [(0, 10, 13, 13)] :: gTC) ({ frames := 44, cells := 0, slots := 0, locals := 4200 } : Room) (va_Pc [.ref (q 0), .int p0, .int p1, .ref out] (fun U => f_Pre D k q (lw_o k out g ++ rv_w k q a b v) sz U ∧ pX 193 "no such river, or nothing such of it" sa (va_A (lw_o k out g ++ rv_w k q a b v) sz) U)) (f_Q D (lw_o k out g ++ rv_w k q a b v) sz (lw_o k out (vp_updL g 0 x.toInt64) ++ rv_w k q a1 b1 v1) (some (.int 0))) 0 0 (va_A (lw_o k out g ++ rv_w k q a b v) sz) := by
  obtain ⟨r9, h9, hq9, hM9⟩ := f_get (mkC l) mtC_111 w
  obtain ⟨a1, b1, v1, x, rfl, rfl, hI1, hp1⟩ := hq9
  refine ⟨a1, b1, v1, x, hI1, hp1, ?_⟩
  refine va_MetW (cc := cL_river) (maxL := 5) (ret := some .int) (hh := [(0, 10, 13, 13)]) (by decide) rfl ?_
  intro p e s m args below meth c s₁ B hml hv
  obtain ⟨rfl, ⟨hsz, hP, hK, hN, hD0⟩, hXX⟩ := hv
  have hx := B.exec
  have hb := B.bytes
  have hr := B.returns
  have hts0 := atoms_spec (ws := Cond.codeWith yL_river cL_river 5 (some .int) [(0, 10, 13, 13)] :: gTC) B.pre
  have hts : ∀ w ∈ gTC, w.before _ s = true := fun w h => hts0 w (List.mem_cons_of_mem _ h)
  have hown : s.vm.findClass RL = some m.cls := findClass_of_methodNamed B.named
  have hlocks := B.notSynchronized
  have htab : c.exceptionTable.toList = tableOf [(0, 10, 13, 13)] := vx_table (x := yL_river) B (hts0 _ List.mem_cons_self)
  subst hsz
  have hD := hD0.self (sz := s.heap.size)
  have hA : ∀ q9 : Nat, s.heap.size ≤ q9 → va_A (lw_o k out g ++ rv_w k q a b v) s.heap.size q9 := fun q h => Or.inr h
  have hS : va_S (va_A (lw_o k out g ++ rv_w k q a b v) s.heap.size) s.heap s.heap [] := va_S.rf
  have hl := lv_entry [.ref (q 0), .int p0, .int p1, .ref out] (n := 5) (Nat.le_of_ble_eq_true rfl)
  rw [lg_entry_eq]
  generalize (lg_sl [.ref (q 0), .int p0, .int p1, .ref out] ++ List.replicate (5 - (lg_sl [.ref (q 0), .int p0, .int p1, .ref out]).length) Slot.unset).toArray = ls at hl ⊢
  have hl : lv_has ls 5 [(0, .ref (q 0)), (1, .int p0), (2, .int p1), (3, .ref out)] := hl
  refine lv_aload_n hx hb dL_river_0 rfl (lv_at hl 3 rfl) ?_
  refine lv_iconst (v := 0) hx hb dL_river_1 (by decide) ?_
  refine lv_aload_n hx hb dL_river_2 rfl (lv_at hl 0 rfl) ?_
  refine lv_iload_n hx hb dL_river_3 rfl (lv_at hl 1 rfl) ?_
  refine lv_iload_n hx hb dL_river_4 rfl (lv_at hl 2 rfl) ?_
  obtain ⟨hP, hD⟩ := f_sw hP hD
  refine f_callG hx hb hml hown hts hK hN hA hM9 (as := [.inl p0, .inl p1]) rfl ⟨rfl, (by decide : (parseMethodDescriptor yX12_river.desc).map (fun d => d.parameters.length) = some 2)⟩ (lw_ws lr_7 lr_8 lr_9 lr_3 lr_10) (by decide) (by decide) ⟨Nat.le_of_ble_eq_true rfl, Nat.le_of_ble_eq_true rfl⟩ ⟨Nat.zero_le _, Nat.zero_le _⟩ dL_river_5 hl.1 (rest := [.int 0, .ref out]) rfl (by decide : (1 + (1 + 0) : Nat) ≤ 16) hP hD hS ?_
  intro H locs hP hD hS
  refine lv_i2l (v := x.toInt64) hx hb dL_river_8 rfl ?_
  obtain ⟨hP, hD⟩ := f_sw hP hD
  refine va_last (ws := lw_o k out g ++ rv_w k q a1 b1 v1) hx hb hK hP hD hS 0 2 rfl rfl (show ¬ (_ ∨ _) by decide) dL_river_9 (fun H1 locs1 hP hD hS => ?_)
  refine lv_goto (tgt := 17) hx hb dL_river_10 (by decide) ?_
  refine lv_iconst (v := 0) hx hb dL_river_17 (by decide) ?_
  exact W.iret (v := 0) hx hb hr (fun t ht hW => ⟨⟨rfl, by rw [ht]; exact hP, hD⟩, hS.F ht⟩) hS.2.2 dL_river_18 hlocks
set_option maxHeartbeats 4000000 in
set_option maxRecDepth 100000 in
theorem cx_worst (l : Launch) (hst : l.stackTraces = false) (D : va_G) (k : Nat → ClassId) (sz sa : Nat) (q : Nat → Nat) {K : Nat} {a : Nat → Nat → Int32} {b : Nat → Nat → Int64} {v : Nat → Option Nat} {L : Nat} (hR : RC K a) (h0 : v 0 = some L) (hL : L = 22 ∨ L = 46) (p0 p1 : Int32) (hg : ¬ (0 ≤ p0.toInt ∧ p0.toInt < (a L 7).toInt ∧ ¬ (a (L + 1 + 11 + 2 * p0.toInt.toNat) 10).toInt = -1 ∧ 0 ≤ p1.toInt ∧ p1.toInt ≤ 1)) : vx_Met l yX12_worst (Cond.code yX12_worst cX12_worst 6 (some .int) :: gTC) ({ frames := 42, cells := 1, slots := 6, locals := 4100 } : Room) (va_Pc [.ref (q 0), .int p0, .int p1] (fun U => f_Pre D k q (rv_w k q a b v) sz U ∧ pX 351 "no such town, or nothing such of it" sa (va_A (rv_w k q a b v) sz) U)) (va_Qi (fun (r : Int32) (u : Unit) => False) (fun _ _ => True) (va_A (rv_w k q a b v) sz)) (vx_X (fun (_ : Unit) => True) (fun E _ t => E = "java/util/NoSuchElementException" ∧ va_P D vwCl (rv_w k q a b v) t.heap) (va_A (rv_w k q a b v) sz)) 1 6 (va_A (rv_w k q a b v) sz) := by
  refine vx_ofW (cc := cX12_worst) (maxL := 6) (ret := some .int) (by decide) rfl ?_
  intro p e s m args below meth c s₁ B hml htab hv
  obtain ⟨rfl, ⟨hsz, hP, hK, hN, hD0⟩, hXX⟩ := hv
  have hx := B.exec
  have hb := B.bytes
  have hts0 := atoms_spec (ws := Cond.code yX12_worst cX12_worst 6 (some .int) :: gTC) B.pre
  have hts : ∀ w ∈ gTC, w.before _ s = true := fun w h => hts0 w (List.mem_cons_of_mem _ h)
  have hown : s.vm.findClass RX12 = some m.cls := findClass_of_methodNamed B.named
  have hlocks := B.notSynchronized
  subst hsz
  have hD := hD0.self (sz := s.heap.size)
  have hA : ∀ q9 : Nat, s.heap.size ≤ q9 → va_A (rv_w k q a b v) s.heap.size q9 := fun q h => Or.inr h
  have hS : va_S (va_A (rv_w k q a b v) s.heap.size) s.heap s.heap [] := va_S.rf
  have hl := lv_entry [.ref (q 0), .int p0, .int p1] (n := 6) (Nat.le_of_ble_eq_true rfl)
  rw [lg_entry_eq]
  generalize (lg_sl [.ref (q 0), .int p0, .int p1] ++ List.replicate (6 - (lg_sl [.ref (q 0), .int p0, .int p1]).length) Slot.unset).toArray = ls at hl ⊢
  have hl : lv_has ls 6 [(0, .ref (q 0)), (1, .int p0), (2, .int p1)] := hl
  refine lv_aload_n hx hb dX12_worst_0 rfl (lv_at hl 0 rfl) ?_
  refine lv_iload_n hx hb dX12_worst_1 rfl (lv_at hl 1 rfl) ?_
  obtain ⟨r9, h9, hq9, hM9⟩ := f_get (mkC l) mtC_106 (s_X12_hasTown a b v L p0 hR h0 hL)
  obtain ⟨rfl, x9, rfl, hb9, -⟩ := hq9
  refine f_callG (w2 := []) hx hb hml hown hts hK hN hA hM9 (as := [.inl p0]) rfl ⟨rfl, (by decide : (parseMethodDescriptor yX12_hasTown.desc).map (fun d => d.parameters.length) = some 1)⟩ (lw_ws lr_12 lr_13 lr_14 lr_3 lr_15) (by decide) (by decide) ⟨Nat.le_of_ble_eq_true rfl, Nat.le_of_ble_eq_true rfl⟩ ⟨Nat.zero_le _, Nat.zero_le _⟩ dX12_worst_2 hl.1 (rest := []) rfl (by decide) (by rw [List.append_nil]; exact hP) (by rw [List.append_nil]; exact hD) hS ?_
  intro H locs hP hD hS
  rw [List.append_nil] at hP hD
  have ck := hts (.classLink RX12 191 "java/util/NoSuchElementException") (gTC_in lr_5)
  have ci := hts (.initialized "java/util/NoSuchElementException") (gTC_in lr_6)
  obtain ⟨hU, hN2, hstr, q4, q5, q6, q7⟩ := hXX
  have hat : ∀ w ∈ p_thr, w.before _ s = true := vx_hat (fun w h => hts w (gTC_in (wl_thr w h))) p_thr_no (vx_c (va_Nw.use rfl q4) (vx_c (va_Nw.use rfl q5) (vx_c (va_Nw.use rfl q6) (vx_c (va_Nw.use rfl q7) vx_n))))
  have T18 : W p l e _ s m _ below meth c H locs 0 0 _ (F0 m 17 ls []) := p_throwSW (Qc := va_Qi (fun (r : Int32) (u : Unit) => False) (fun _ _ => True) (va_A (rv_w k q a b v) s.heap.size)) (XC := vx_X (fun (_ : Unit) => True) (fun E _ t => E = "java/util/NoSuchElementException" ∧ va_P D vwCl (rv_w k q a b v) t.heap) (va_A (rv_w k q a b v) s.heap.size)) (mc := 1) (ms := 6) (free := va_A (rv_w k q a b v) s.heap.size) (R := ({ frames := 42, cells := 1, slots := 6, locals := 4100 } : Room)) (by9 := prog_32_method_4_code) (ix := 13) (ic := 195) (Yn := "java/lang/RuntimeException") (names := ["java/lang/Exception"]) (sa := sa) hx hb hst (by decide +kernel) (by decide +kernel) (by decide +kernel) (by decide +kernel) hown (by decide +kernel) (by decide +kernel) (by decide +kernel) ck ci hstr hat (p_thr_ot 0) hU hN2 hS (hl.1.trans hml.symm) dX12_worst_17 dX12_worst_20 dX12_worst_21 dX12_worst_24 dX12_worst_27 (fun x h => (htab x h).elim) (by decide) (Nat.le_of_ble_eq_true rfl) (Nat.le_of_ble_eq_true rfl) (Nat.le_of_ble_eq_true rfl) hlocks (fun t ha hz hk => ⟨(), trivial, ⟨rfl, fun j z hj => (hP j z hj).kept (hk z.1 (hP j z hj).lt)⟩, Nat.le_trans hS.1 hz, fun q h1 h2 => (hk q (Nat.lt_of_lt_of_le h1 hS.1)).trans (hS.2.1 q h1 h2)⟩) hS.2.2 (Nat.le_refl _) (Nat.le_refl _)
  refine lv_if_eq (tgt := 17) hx hb dX12_worst_5 (by decide) (fun _ => T18) (fun h9 => ?_)
  refine lv_iload_n hx hb dX12_worst_8 rfl (lv_at hl 2 rfl) ?_
  refine lv_if_lt (tgt := 17) hx hb dX12_worst_9 (by decide) (fun _ => T18) (fun h8 => ?_)
  refine lv_iload_n hx hb dX12_worst_12 rfl (lv_at hl 2 rfl) ?_
  refine lv_iconst (v := 1) hx hb dX12_worst_13 (by decide) ?_
  refine lv_icmp_le (tgt := 28) hx hb dX12_worst_14 (by decide) (fun h7 => absurd ?_ hg) (fun _ => T18)
  have e8 : 0 ≤ p1.toInt := by
    by_cases h : p1.toInt < 0
    · exact absurd (Int32.lt_iff_toInt_lt.mpr (show p1.toInt < (0 : Int32).toInt from h)) h8
    · exact Int.not_lt.mp h
  have e7 : p1.toInt ≤ 1 := Int32.le_iff_toInt_le.mp h7
  rcases hb9 with ⟨-, g9⟩ | ⟨g9, -⟩
  · exact ⟨g9.1, g9.2.1, g9.2.2, e8, e7⟩
  · exact absurd (Int32.toInt_inj.mp (show x9.toInt = (0 : Int32).toInt from g9)) h9
theorem dL_worst_0 : decode cL_worst 0 = .ok (.aload_n 3, 1) := by decide +kernel
theorem dL_worst_1 : decode cL_worst 1 = .ok (.iconst 0, 1) := by decide +kernel
theorem dL_worst_2 : decode cL_worst 2 = .ok (.aload_n 0, 1) := by decide +kernel
theorem dL_worst_3 : decode cL_worst 3 = .ok (.iload_n 1, 1) := by decide +kernel
theorem dL_worst_4 : decode cL_worst 4 = .ok (.iload_n 2, 1) := by decide +kernel
theorem dL_worst_5 : decode cL_worst 5 = .ok (.invokevirtual 15, 3) := by decide +kernel
theorem dL_worst_8 : decode cL_worst 8 = .ok (.i2l, 1) := by decide +kernel
theorem dL_worst_9 : decode cL_worst 9 = .ok (.lastore, 1) := by decide +kernel
theorem dL_worst_10 : decode cL_worst 10 = .ok (.goto 7, 3) := by decide +kernel
theorem dL_worst_13 : decode cL_worst 13 = .ok (.astore 4, 2) := by decide +kernel
theorem dL_worst_15 : decode cL_worst 15 = .ok (.iconst 1, 1) := by decide +kernel
theorem dL_worst_16 : decode cL_worst 16 = .ok (.ireturn, 1) := by decide +kernel
theorem dL_worst_17 : decode cL_worst 17 = .ok (.iconst 0, 1) := by decide +kernel
theorem dL_worst_18 : decode cL_worst 18 = .ok (.ireturn, 1) := by decide +kernel
set_option maxHeartbeats 4000000 in
set_option maxRecDepth 100000 in
theorem cL_worst_thr (l : Launch) (hst : l.stackTraces = false) (D : va_G) (k : Nat → ClassId) (sz sa : Nat) (q : Nat → Nat) {K : Nat} {a : Nat → Nat → Int32} {b : Nat → Nat → Int64} {v : Nat → Option Nat} {L : Nat} (hR : RC K a) (h0 : v 0 = some L) (hL : L = 22 ∨ L = 46) (p0 p1 : Int32) (hg : ¬ (0 ≤ p0.toInt ∧ p0.toInt < (a L 7).toInt ∧ ¬ (a (L + 1 + 11 + 2 * p0.toInt.toNat) 10).toInt = -1 ∧ 0 ≤ p1.toInt ∧ p1.toInt ≤ 1)) (out : Nat) (g : Nat → Int64) : Met l yL_worst (Cond.codeWith yL_worst cL_worst 5 (some .int) [(0, 10, 13, 13)] :: gTC) ({ frames := 44, cells := 1, slots := 6, locals := 4200 } : Room) (va_Pc [.ref (q 0), .int p0, .int p1, .ref out] (fun U => f_Pre D k q (lw_o k out g ++ rv_w k q a b v) sz U ∧ pX 351 "no such town, or nothing such of it" sa (va_A (lw_o k out g ++ rv_w k q a b v) sz) U)) (f_Q D (lw_o k out g ++ rv_w k q a b v) sz (lw_o k out g ++ rv_w k q a b v) (some (.int 1))) 1 6 (va_A (lw_o k out g ++ rv_w k q a b v) sz) := by
  refine va_MetW (cc := cL_worst) (maxL := 5) (ret := some .int) (hh := [(0, 10, 13, 13)]) (by decide) rfl ?_
  intro p e s m args below meth c s₁ B hml hv
  obtain ⟨rfl, ⟨hsz, hP, hK, hN, hD0⟩, hXX⟩ := hv
  have hx := B.exec
  have hb := B.bytes
  have hr := B.returns
  have hts0 := atoms_spec (ws := Cond.codeWith yL_worst cL_worst 5 (some .int) [(0, 10, 13, 13)] :: gTC) B.pre
  have hts : ∀ w ∈ gTC, w.before _ s = true := fun w h => hts0 w (List.mem_cons_of_mem _ h)
  have hown : s.vm.findClass RL = some m.cls := findClass_of_methodNamed B.named
  have hlocks := B.notSynchronized
  have htab : c.exceptionTable.toList = tableOf [(0, 10, 13, 13)] := vx_table (x := yL_worst) B (hts0 _ List.mem_cons_self)
  subst hsz
  have hD := hD0.self (sz := s.heap.size)
  have hA : ∀ q9 : Nat, s.heap.size ≤ q9 → va_A (lw_o k out g ++ rv_w k q a b v) s.heap.size q9 := fun q h => Or.inr h
  have hS : va_S (va_A (lw_o k out g ++ rv_w k q a b v) s.heap.size) s.heap s.heap [] := va_S.rf
  have hl := lv_entry [.ref (q 0), .int p0, .int p1, .ref out] (n := 5) (Nat.le_of_ble_eq_true rfl)
  rw [lg_entry_eq]
  generalize (lg_sl [.ref (q 0), .int p0, .int p1, .ref out] ++ List.replicate (5 - (lg_sl [.ref (q 0), .int p0, .int p1, .ref out]).length) Slot.unset).toArray = ls at hl ⊢
  have hl : lv_has ls 5 [(0, .ref (q 0)), (1, .int p0), (2, .int p1), (3, .ref out)] := hl
  refine lv_aload_n hx hb dL_worst_0 rfl (lv_at hl 3 rfl) ?_
  refine lv_iconst (v := 0) hx hb dL_worst_1 (by decide) ?_
  refine lv_aload_n hx hb dL_worst_2 rfl (lv_at hl 0 rfl) ?_
  refine lv_iload_n hx hb dL_worst_3 rfl (lv_at hl 1 rfl) ?_
  refine lv_iload_n hx hb dL_worst_4 rfl (lv_at hl 2 rfl) ?_
  obtain ⟨hP, hD⟩ := f_sw hP hD
  have hF := f_in1 hA hD hS
  refine vx_calli (vx_runV (As := [.int p0, .int p1]) (rest := [.int 0, .ref out]) (b := q 0) ⟨hx, hb, hml, hown, hts⟩ (cx_worst l hst D k s.heap.size sa q hR h0 hL p0 p1 hg) (cwV 2 hts (lw_good (fun _ h => h) (lw_ws lr_16 lr_17 lr_18 lr_3 lr_19)) rfl rfl rfl (by decide +kernel) ⟨Nat.le_of_ble_eq_true rfl, Nat.le_of_ble_eq_true rfl⟩) ⟨fun a U g mk z => ⟨z.1, (f_Blind a U g mk ⟨z.1, z.2.1⟩).2, z.2.2.blind⟩, va_recv hK (f_P1 hP) (ci := 9) rfl (f_w_get shC0), fun U hU hW => ⟨rfl, ((f_lpre (av := [.ref (q 0), .int p0, .int p1]) hK hN hP hD hS hA).2 U hU hW).2, hXX.to hS hU hW hF⟩⟩ rfl rfl hl.1 rfl (lv_room (Nat.le_of_ble_eq_true rfl)) dL_worst_5 ⟨by decide, by decide⟩) hS (fun q _ h => hF q h) hF (fun q _ h => hF q h) (fun E ce q9 u t H1 locs ht hvm hpx hBX hz1 hk1 hS hce hcv hcl => ?_) (fun r u t H1 locs ht hvm hw hB hz1 hk1 hS => hw.elim)
  obtain ⟨hE, hPX⟩ := hBX
  subst hE
  rw [ht] at hPX
  obtain ⟨hP2, hD2⟩ := f_join hP hD hk1 hPX ((f_D2 hD0).self) hF
  obtain ⟨hP2, hD2⟩ := f_sw hP2 hD2
  have ck := hts (.classLink RL 13 "java/util/NoSuchElementException") (gTC_in lr_11)
  obtain ⟨hU, hN2, hstr, q4, q5, q6, q7⟩ := hXX
  refine vx_catch hown [] _ [] htab (fun z h => nomatch h) (by decide +kernel) (by decide +kernel) ck (va_Nw.use rfl q4) hce hcv hcl ?_
  refine lv_astore (lv' := [(4, .ref q9), (0, .ref (q 0)), (1, .int p0), (2, .int p1), (3, .ref out)]) hx hb dL_worst_13 hl (by decide) rfl (fun ls hl => ?_)
  refine lv_iconst (v := 1) hx hb dL_worst_15 (by decide) ?_
  exact W.iret (v := 1) hx hb hr (fun t ht hW => ⟨⟨rfl, by rw [ht]; exact hP2, hD2⟩, hS.F ht⟩) hS.2.2 dL_worst_16 hlocks
set_option maxHeartbeats 4000000 in
set_option maxRecDepth 100000 in
theorem cL_worst_ret (l : Launch) (D : va_G) (k : Nat → ClassId) (sz sa : Nat) (q : Nat → Nat) {K : Nat} {a : Nat → Nat → Int32} {b : Nat → Nat → Int64} {v : Nat → Option Nat} (p0 p1 : Int32) (out : Nat) (g : Nat → Int64) {P : Int32 → (Nat → Nat → Int32) → (Nat → Option Nat) → Prop} (w : f_call mtC 40 144 [.inr (.inr (some 0)), .inl p0, .inl p1] (cH a b v) (QC K P)) : ∃ (a1 : Nat → Nat → Int32) (b1 : Nat → Nat → Int64) (v1 : Nat → Option Nat) (x : Int32), IC (K + 1) a1 v1 ∧ P x a1 v1 ∧ Met l yL_worst (Cond.codeWith yL_worst cL_worst 5 (some .int) [(0, 10, 13, 13)] :: gTC) ({ frames := 44, cells := 0, slots := 0, locals := 4200 } : Room) (va_Pc [.ref (q 0), .int p0, .int p1, .ref out] (fun U => f_Pre D k q (lw_o k out g ++ rv_w k q a b v) sz U ∧ pX 351 "no such town, or nothing such of it" sa (va_A (lw_o k out g ++ rv_w k q a b v) sz) U)) (f_Q D (lw_o k out g ++ rv_w k q a b v) sz (lw_o k out (vp_updL g 0 x.toInt64) ++ rv_w k q a1 b1 v1) (some (.int 0))) 0 0 (va_A (lw_o k out g ++ rv_w k q a b v) sz) := by
  obtain ⟨r9, h9, hq9, hM9⟩ := f_get (mkC l) mtC_144 w
  obtain ⟨a1, b1, v1, x, rfl, rfl, hI1, hp1⟩ := hq9
  refine ⟨a1, b1, v1, x, hI1, hp1, ?_⟩
  refine va_MetW (cc := cL_worst) (maxL := 5) (ret := some .int) (hh := [(0, 10, 13, 13)]) (by decide) rfl ?_
  intro p e s m args below meth c s₁ B hml hv
  obtain ⟨rfl, ⟨hsz, hP, hK, hN, hD0⟩, hXX⟩ := hv
  have hx := B.exec
  have hb := B.bytes
  have hr := B.returns
  have hts0 := atoms_spec (ws := Cond.codeWith yL_worst cL_worst 5 (some .int) [(0, 10, 13, 13)] :: gTC) B.pre
  have hts : ∀ w ∈ gTC, w.before _ s = true := fun w h => hts0 w (List.mem_cons_of_mem _ h)
  have hown : s.vm.findClass RL = some m.cls := findClass_of_methodNamed B.named
  have hlocks := B.notSynchronized
  have htab : c.exceptionTable.toList = tableOf [(0, 10, 13, 13)] := vx_table (x := yL_worst) B (hts0 _ List.mem_cons_self)
  subst hsz
  have hD := hD0.self (sz := s.heap.size)
  have hA : ∀ q9 : Nat, s.heap.size ≤ q9 → va_A (lw_o k out g ++ rv_w k q a b v) s.heap.size q9 := fun q h => Or.inr h
  have hS : va_S (va_A (lw_o k out g ++ rv_w k q a b v) s.heap.size) s.heap s.heap [] := va_S.rf
  have hl := lv_entry [.ref (q 0), .int p0, .int p1, .ref out] (n := 5) (Nat.le_of_ble_eq_true rfl)
  rw [lg_entry_eq]
  generalize (lg_sl [.ref (q 0), .int p0, .int p1, .ref out] ++ List.replicate (5 - (lg_sl [.ref (q 0), .int p0, .int p1, .ref out]).length) Slot.unset).toArray = ls at hl ⊢
  have hl : lv_has ls 5 [(0, .ref (q 0)), (1, .int p0), (2, .int p1), (3, .ref out)] := hl
  refine lv_aload_n hx hb dL_worst_0 rfl (lv_at hl 3 rfl) ?_
  refine lv_iconst (v := 0) hx hb dL_worst_1 (by decide) ?_
  refine lv_aload_n hx hb dL_worst_2 rfl (lv_at hl 0 rfl) ?_
  refine lv_iload_n hx hb dL_worst_3 rfl (lv_at hl 1 rfl) ?_
  refine lv_iload_n hx hb dL_worst_4 rfl (lv_at hl 2 rfl) ?_
  obtain ⟨hP, hD⟩ := f_sw hP hD
  refine f_callG hx hb hml hown hts hK hN hA hM9 (as := [.inl p0, .inl p1]) rfl ⟨rfl, (by decide : (parseMethodDescriptor yX12_worst.desc).map (fun d => d.parameters.length) = some 2)⟩ (lw_ws lr_16 lr_17 lr_18 lr_3 lr_19) (by decide) (by decide) ⟨Nat.le_of_ble_eq_true rfl, Nat.le_of_ble_eq_true rfl⟩ ⟨Nat.zero_le _, Nat.zero_le _⟩ dL_worst_5 hl.1 (rest := [.int 0, .ref out]) rfl (by decide : (1 + (1 + 0) : Nat) ≤ 16) hP hD hS ?_
  intro H locs hP hD hS
  refine lv_i2l (v := x.toInt64) hx hb dL_worst_8 rfl ?_
  obtain ⟨hP, hD⟩ := f_sw hP hD
  refine va_last (ws := lw_o k out g ++ rv_w k q a1 b1 v1) hx hb hK hP hD hS 0 2 rfl rfl (show ¬ (_ ∨ _) by decide) dL_worst_9 (fun H1 locs1 hP hD hS => ?_)
  refine lv_goto (tgt := 17) hx hb dL_worst_10 (by decide) ?_
  refine lv_iconst (v := 0) hx hb dL_worst_17 (by decide) ?_
  exact W.iret (v := 0) hx hb hr (fun t ht hW => ⟨⟨rfl, by rw [ht]; exact hP, hD⟩, hS.F ht⟩) hS.2.2 dL_worst_18 hlocks
theorem lw_ws4 {a1 a2 a3 a4 : Cond} (h1 : a1 ∈ gT) (h2 : a2 ∈ gT) (h3 : a3 ∈ gT) (h4 : a4 ∈ gT) : ∀ w ∈ [a1, a2, a3, a4], w ∈ gT := fun w hw => by
  simp only [List.mem_cons, List.not_mem_nil, or_false] at hw
  rcases hw with rfl | rfl | rfl | rfl
  · exact h1
  · exact h2
  · exact h3
  · exact h4
theorem lw_stat {p : Program} {l : Launch} {e : Env} {s : State} {m : MethodId} {below : List Frame} {meth : Method} {c : Code} {H : Heap} {locs : List Loc} {cells slots : Nat} {Q : State → Prop} {ls : Array Slot} {b L : Nat} {xs : Nat → Int32} {A : Nat → Prop} {D : va_G} {k : Nat → ClassId} {qC qM : Nat → Nat} {out : Nat} {hC hM hC' : f_H} {g g' : Nat → Int64} {pc : Nat} {st : List Value} (I : lw_In p s m meth c b L xs A D k qC qM) (hJ : lw_J s A D k qC qM out hC hM g H locs) {is sa : Nat} {tx : String} (hX : pX is tx sa A s) {y : MethodName} {idx mc ms : Nat} {bytes : ByteArray} {hh : List (Nat × Nat × Nat × Nat)} {As : List Value} {rv : Value}
    (hMt : Met l y (Cond.codeWith y bytes 5 (some .int) hh :: gTC) ({ frames := 44, cells := mc, slots := ms, locals := 4200 } : Room) (va_Pc As (fun U => f_Pre D k qC (lw_o k out g ++ f_w shC k qC hC) H.size U ∧ pX is tx sa (va_A (lw_o k out g ++ f_w shC k qC hC) H.size) U)) (f_Q D (lw_o k out g ++ f_w shC k qC hC) H.size (lw_o k out g' ++ f_w shC k qC hC') (some rv)) mc ms (va_A (lw_o k out g ++ f_w shC k qC hC) H.size))
    (hW : ∀ w ∈ [Cond.methodLink RL idx y, Cond.static y, Cond.initialized y.cls, Cond.codeWith y bytes 5 (some .int) hh], w ∈ gT) (hy : y.cls = RL ∧ (parseMethodDescriptor y.desc).map (fun d => d.parameters.length) = some 4) (hn : As.length = 4) (hdg : decode code pc = .ok (.invokestatic idx, 3)) (hls : ls.size = 7) (hst : st = As.reverse) (hcs : cells + mc ≤ 601024 ∧ slots + ms ≤ 7293033)
    (kk : ∀ (H1 : Heap) (locs1 : List Loc), lw_J s A D k qC qM out hC' hM g' H1 locs1 → W p l e room_1 s m #[Value.ref b] below meth c H1 locs1 (cells + mc) (slots + ms) Q (F0 m (pc + 3) ls [rv])) : W p l e room_1 s m #[Value.ref b] below meth c H locs cells slots Q (F0 m pc ls st) := by
  obtain ⟨⟨hx, hb, hr, hml, hown, hts0, hX0, hbl, hlocks, hgv⟩, hts, hK, hN, hN2, hA, hAf⟩ := I
  obtain ⟨hP, hD, hS⟩ := hJ
  obtain ⟨hP, hD⟩ := f_sw hP hD
  rw [List.append_assoc] at hP hD
  obtain ⟨hP, hD⟩ := f_sw hP hD
  have hF := f_in1 hA hD hS
  have hG : GoodIn gTC (va_wsS RL idx y (Cond.codeWith y bytes 5 (some .int) hh :: gTC)) := fun w hw => by
    have h1 : w ∈ gTC := by
      unfold va_wsS at hw
      rcases List.mem_append.mp hw with z | z
      · exact gTC_in (hW w (by simp only [List.mem_cons, List.not_mem_nil, or_false] at z ⊢; rcases z with z | z | z <;> simp [z]))
      · rcases List.mem_cons.mp z with z | z
        · exact gTC_in (hW w (by rw [z]; simp))
        · exact z
    exact ⟨h1, good_of_word (gTC_ok w h1)⟩
  have hrun := vx_runSW (R := room_1) (p := p) (e := e) (below := below) (meth := meth) (locs := locs) (cells := cells) (slots := slots) (g := F0 m pc ls st) (As := As) (rest := []) ⟨hx, hb, hml, hown, hts⟩ hMt (vx_cwSW 4 hts hG rfl rfl rfl ⟨by rw [hy.1]; decide, by rw [hy.1]; decide, hy.2⟩ ⟨Nat.le_of_ble_eq_true rfl, Nat.le_of_ble_eq_true rfl⟩) ⟨fun a U g mk z => ⟨z.1, (f_Blind a U g mk ⟨z.1, z.2.1⟩).2, z.2.2.blind⟩, fun U hU hW => ⟨rfl, ⟨by rw [hU], by rw [hU]; exact f_P1 hP, va_K.moved hW.alike hK, by rw [hU]; exact hN.to hS hW hF, (f_D1 hD).weaken (fun _ _ _ _ => trivial)⟩, hX.to hS hU hW hF⟩⟩ rfl hn hls (by rw [List.append_nil]; exact hst) (lv_room (Nat.le_of_ble_eq_true rfl)) hdg ⟨hcs.1, hcs.2⟩
  refine f_lawG hA hP hD hS hrun (fun H1 locs1 g1 g2 g3 => ?_)
  obtain ⟨g1, g2⟩ := f_sw g1 g2
  rw [← List.append_assoc] at g1 g2
  obtain ⟨g1, g2⟩ := f_sw g1 g2
  exact kk H1 locs1 ⟨g1, g2, g3⟩
-- behind the law's own river: the model's
theorem lt_river {p : Program} {l : Launch} {e : Env} {s : State} {m : MethodId} {below : List Frame} {meth : Method} {c : Code} {H : Heap} {locs : List Loc} {cells slots : Nat} {Q : State → Prop} {ls : Array Slot} {b L : Nat} {xs : Nat → Int32} {A : Nat → Prop} {D : va_G} {k : Nat → ClassId} {qC qM : Nat → Nat} {out : Nat} {g : Nat → Int64} (I : lw_In p s m meth c b L xs A D k qC qM) {K : Nat} (hK : K ≤ 600) {aC : Nat → Nat → Int32} {bC : Nat → Nat → Int64} {v : Nat → Option Nat} {aM : Nat → Nat → Int32} {bM : Nat → Nat → Int64} (hIC : IC (K + 1) aC v) (hIM : IM K aM) (hlen : TR aC v aM bM) (hJ : lw_J s A D k qC qM out (cH aC bC v) (mH aM bM) g H locs) {i z : Int32} (hl : lv_has ls 7 [(4, .int i), (3, .ref out), (2, .ref (qM 0)), (1, .ref (qC 0)), (0, .ref b)]) (hin : ∀ jv : Int32, 0 ≤ jv.toInt → jv.toInt ≤ 6 → vp_in (i + jv) L) (hcs : cells ≤ 601024 ∧ slots ≤ 7293033) (kk : lw_K p l e s m b below meth c cells slots Q A D k qC qM out (K + 1) i) : W p l e room_1 s m #[Value.ref b] below meth c H locs cells slots Q (F0 m 399 ls [.int z]) := by
  obtain ⟨hx, hb, hr, hml, hown, -⟩ := id I.1
  refine lv_istore (lv' := [(5, .int z), (4, .int i), (3, .ref out), (2, .ref (qM 0)), (1, .ref (qC 0)), (0, .ref b)]) hx hb dL_law_399 hl (by decide) rfl (fun ls hl => ?_)
  refine lv_aload_n hx hb dL_law_401 rfl (lv_at hl 3 rfl) ?_
  refine lw_arg I hJ.2.2 (lv_at hl 5 rfl) (lv_at hl 1 rfl) (hin 1 (by decide) (by decide)) dL_law_402 dL_law_403 dL_law_405 dL_law_406 dL_law_407 (by decide) ?_
  refine lw_arg I hJ.2.2 (lv_at hl 5 rfl) (lv_at hl 1 rfl) (hin 2 (by decide) (by decide)) dL_law_408 dL_law_409 dL_law_411 dL_law_412 dL_law_413 (by decide) ?_
  refine lw_doM I hJ mtM_59 (pm_river hK aM bM (xs (i + 1).toNatClampNeg) (xs (i + 2).toNatClampNeg) hIM) ⟨rfl, (by decide : (parseMethodDescriptor yX13_river.desc).map (fun d => d.parameters.length) = some 2)⟩ (lw_ws lr_20 lr_21 lr_22 lr_23 lr_24) (by decide) (by decide) dL_law_414 hl.1 rfl (by decide) hcs ?_
  intro aM1 bM1 x2 H2 locs2 hI2 hz5 hp2 hJ2
  refine lv_istore (lv' := [(6, .int x2), (5, .int z), (4, .int i), (3, .ref out), (2, .ref (qM 0)), (1, .ref (qC 0)), (0, .ref b)]) hx hb dL_law_417 hl (by decide) rfl (fun ls hl => ?_)
  refine lv_goto (tgt := 1431) hx hb dL_law_419 (by decide) ?_
  exact kk aC bC v aM1 bM1 g H2 locs2 ls ⟨hIC, hI2, hlen.keepM hp2 hz5⟩ hJ2 ⟨hl.1, hl.2.1, fun q hq => hl.2.2 q (List.mem_cons_of_mem _ (List.mem_cons_of_mem _ hq))⟩
set_option maxHeartbeats 1000000 in
theorem lc_river {p : Program} {l : Launch} {e : Env} {s : State} {m : MethodId} {below : List Frame} {meth : Method} {c : Code} {H : Heap} {locs : List Loc} {cells slots : Nat} {Q : State → Prop} {ls : Array Slot} {b L : Nat} {xs : Nat → Int32} {A : Nat → Prop} {D : va_G} {k : Nat → ClassId} {qC qM : Nat → Nat} {out : Nat} {g : Nat → Int64} (I : lw_In p s m meth c b L xs A D k qC qM) {K : Nat} (hK : K ≤ 600) {aC : Nat → Nat → Int32} {bC : Nat → Nat → Int64} {v : Nat → Option Nat} {aM : Nat → Nat → Int32} {bM : Nat → Nat → Int64} (hB : IB K aC v aM bM) (hJ : lw_J s A D k qC qM out (cH aC bC v) (mH aM bM) g H locs) {i : Int32} (hl : lv_has ls 7 [(4, .int i), (3, .ref out), (2, .ref (qM 0)), (1, .ref (qC 0)), (0, .ref b)]) (hin : ∀ jv : Int32, 0 ≤ jv.toInt → jv.toInt ≤ 6 → vp_in (i + jv) L) (hcs : cells + 1 ≤ 601024 ∧ slots + 6 ≤ 7293033) (kk : lw_K p l e s m b below meth c (cells + 1) (slots + 6) Q A D k qC qM out (K + 1) i) (hst : l.stackTraces = false) {sa : Nat} (hX : pX 193 "no such river, or nothing such of it" sa A s) : W p l e room_1 s m #[Value.ref b] below meth c H locs cells slots Q (F0 m 382 ls []) := by
  obtain ⟨hx, hb, hr, hml, hown, -⟩ := id I.1
  refine lv_aload_n hx hb dL_law_382 rfl (lv_at hl 3 rfl) ?_
  refine lw_arg I hJ.2.2 (lv_at hl 4 rfl) (lv_at hl 0 rfl) (hin 1 (by decide) (by decide)) dL_law_383 dL_law_384 dL_law_386 dL_law_387 dL_law_388 (by decide) ?_
  refine lw_arg I hJ.2.2 (lv_at hl 4 rfl) (lv_at hl 0 rfl) (hin 2 (by decide) (by decide)) dL_law_389 dL_law_390 dL_law_392 dL_law_393 dL_law_394 (by decide) ?_
  refine lv_aload_n hx hb dL_law_395 rfl (lv_at hl 1 rfl) ?_
  obtain ⟨L9, h0, hL9⟩ := VC.cty hB.1.2
  by_cases hg : 0 ≤ (xs (i + 1).toNatClampNeg).toInt ∧ (xs (i + 1).toNatClampNeg).toInt < (aC L9 7).toInt ∧ 0 ≤ (xs (i + 2).toNatClampNeg).toInt ∧ (xs (i + 2).toNatClampNeg).toInt ≤ 8
  · obtain ⟨a1, b1, v1, x1, hI1, hp1, hMt⟩ := cL_river_ret l D k H.size sa qC (xs (i + 1).toNatClampNeg) (xs (i + 2).toNatClampNeg) out g (pc_river hK aC bC v L9 h0 (xs (i + 1).toNatClampNeg) (xs (i + 2).toNatClampNeg) hB.1 hg)
    refine lw_stat I hJ hX hMt (lw_ws4 lr_25 lr_26 lr_27 lr_28) ⟨rfl, (by decide : (parseMethodDescriptor yL_river.desc).map (fun d => d.parameters.length) = some 4)⟩ rfl dL_law_396 hl.1 rfl ⟨by omega, by omega⟩ (fun H1 locs1 hJ1 => ?_)
    refine W.widen (k := cells + 1) (n := slots + 6) (by omega) (by omega) ?_
    exact lt_river I hK hI1 hB.2.1 (hB.2.2.keepC hp1) hJ1 hl hin ⟨by omega, by omega⟩ kk
  · refine lw_stat I hJ hX (cL_river_thr l hst D k H.size sa qC hB.1.1 h0 hL9 (xs (i + 1).toNatClampNeg) (xs (i + 2).toNatClampNeg) hg out g) (lw_ws4 lr_25 lr_26 lr_27 lr_28) ⟨rfl, (by decide : (parseMethodDescriptor yL_river.desc).map (fun d => d.parameters.length) = some 4)⟩ rfl dL_law_396 hl.1 rfl ⟨by omega, by omega⟩ (fun H1 locs1 hJ1 => ?_)
    exact lt_river I hK ⟨RC.mono hB.1.1, hB.1.2⟩ hB.2.1 hB.2.2 hJ1 hl hin ⟨by omega, by omega⟩ kk
-- behind the law's own worst: the model's
theorem lt_worst {p : Program} {l : Launch} {e : Env} {s : State} {m : MethodId} {below : List Frame} {meth : Method} {c : Code} {H : Heap} {locs : List Loc} {cells slots : Nat} {Q : State → Prop} {ls : Array Slot} {b L : Nat} {xs : Nat → Int32} {A : Nat → Prop} {D : va_G} {k : Nat → ClassId} {qC qM : Nat → Nat} {out : Nat} {g : Nat → Int64} (I : lw_In p s m meth c b L xs A D k qC qM) {K : Nat} (hK : K ≤ 600) {aC : Nat → Nat → Int32} {bC : Nat → Nat → Int64} {v : Nat → Option Nat} {aM : Nat → Nat → Int32} {bM : Nat → Nat → Int64} (hIC : IC (K + 1) aC v) (hIM : IM K aM) (hlen : TR aC v aM bM) (hJ : lw_J s A D k qC qM out (cH aC bC v) (mH aM bM) g H locs) {i z : Int32} (hl : lv_has ls 7 [(4, .int i), (3, .ref out), (2, .ref (qM 0)), (1, .ref (qC 0)), (0, .ref b)]) (hin : ∀ jv : Int32, 0 ≤ jv.toInt → jv.toInt ≤ 6 → vp_in (i + jv) L) (hcs : cells ≤ 601024 ∧ slots ≤ 7293033) (kk : lw_K p l e s m b below meth c cells slots Q A D k qC qM out (K + 1) i) : W p l e room_1 s m #[Value.ref b] below meth c H locs cells slots Q (F0 m 962 ls [.int z]) := by
  obtain ⟨hx, hb, hr, hml, hown, -⟩ := id I.1
  refine lv_istore (lv' := [(5, .int z), (4, .int i), (3, .ref out), (2, .ref (qM 0)), (1, .ref (qC 0)), (0, .ref b)]) hx hb dL_law_962 hl (by decide) rfl (fun ls hl => ?_)
  refine lv_aload_n hx hb dL_law_964 rfl (lv_at hl 3 rfl) ?_
  refine lw_arg I hJ.2.2 (lv_at hl 5 rfl) (lv_at hl 1 rfl) (hin 1 (by decide) (by decide)) dL_law_965 dL_law_966 dL_law_968 dL_law_969 dL_law_970 (by decide) ?_
  refine lw_arg I hJ.2.2 (lv_at hl 5 rfl) (lv_at hl 1 rfl) (hin 2 (by decide) (by decide)) dL_law_971 dL_law_972 dL_law_974 dL_law_975 dL_law_976 (by decide) ?_
  refine lw_doM I hJ mtM_102 (pm_worst hK aM bM (xs (i + 1).toNatClampNeg) (xs (i + 2).toNatClampNeg) hIM) ⟨rfl, (by decide : (parseMethodDescriptor yX13_worst.desc).map (fun d => d.parameters.length) = some 2)⟩ (lw_ws lr_29 lr_30 lr_31 lr_23 lr_32) (by decide) (by decide) dL_law_977 hl.1 rfl (by decide) hcs ?_
  intro aM1 bM1 x2 H2 locs2 hI2 hz5 hp2 hJ2
  refine lv_istore (lv' := [(6, .int x2), (5, .int z), (4, .int i), (3, .ref out), (2, .ref (qM 0)), (1, .ref (qC 0)), (0, .ref b)]) hx hb dL_law_980 hl (by decide) rfl (fun ls hl => ?_)
  refine lv_goto (tgt := 1431) hx hb dL_law_982 (by decide) ?_
  exact kk aC bC v aM1 bM1 g H2 locs2 ls ⟨hIC, hI2, hlen.keepM hp2 hz5⟩ hJ2 ⟨hl.1, hl.2.1, fun q hq => hl.2.2 q (List.mem_cons_of_mem _ (List.mem_cons_of_mem _ hq))⟩
set_option maxHeartbeats 1000000 in
theorem lc_worst {p : Program} {l : Launch} {e : Env} {s : State} {m : MethodId} {below : List Frame} {meth : Method} {c : Code} {H : Heap} {locs : List Loc} {cells slots : Nat} {Q : State → Prop} {ls : Array Slot} {b L : Nat} {xs : Nat → Int32} {A : Nat → Prop} {D : va_G} {k : Nat → ClassId} {qC qM : Nat → Nat} {out : Nat} {g : Nat → Int64} (I : lw_In p s m meth c b L xs A D k qC qM) {K : Nat} (hK : K ≤ 600) {aC : Nat → Nat → Int32} {bC : Nat → Nat → Int64} {v : Nat → Option Nat} {aM : Nat → Nat → Int32} {bM : Nat → Nat → Int64} (hB : IB K aC v aM bM) (hJ : lw_J s A D k qC qM out (cH aC bC v) (mH aM bM) g H locs) {i : Int32} (hl : lv_has ls 7 [(4, .int i), (3, .ref out), (2, .ref (qM 0)), (1, .ref (qC 0)), (0, .ref b)]) (hin : ∀ jv : Int32, 0 ≤ jv.toInt → jv.toInt ≤ 6 → vp_in (i + jv) L) (hcs : cells + 1 ≤ 601024 ∧ slots + 6 ≤ 7293033) (kk : lw_K p l e s m b below meth c (cells + 1) (slots + 6) Q A D k qC qM out (K + 1) i) (hst : l.stackTraces = false) {sa : Nat} (hX : pX 351 "no such town, or nothing such of it" sa A s) : W p l e room_1 s m #[Value.ref b] below meth c H locs cells slots Q (F0 m 945 ls []) := by
  obtain ⟨hx, hb, hr, hml, hown, -⟩ := id I.1
  refine lv_aload_n hx hb dL_law_945 rfl (lv_at hl 3 rfl) ?_
  refine lw_arg I hJ.2.2 (lv_at hl 4 rfl) (lv_at hl 0 rfl) (hin 1 (by decide) (by decide)) dL_law_946 dL_law_947 dL_law_949 dL_law_950 dL_law_951 (by decide) ?_
  refine lw_arg I hJ.2.2 (lv_at hl 4 rfl) (lv_at hl 0 rfl) (hin 2 (by decide) (by decide)) dL_law_952 dL_law_953 dL_law_955 dL_law_956 dL_law_957 (by decide) ?_
  refine lv_aload_n hx hb dL_law_958 rfl (lv_at hl 1 rfl) ?_
  obtain ⟨L9, h0, hL9⟩ := VC.cty hB.1.2
  by_cases hg : 0 ≤ (xs (i + 1).toNatClampNeg).toInt ∧ (xs (i + 1).toNatClampNeg).toInt < (aC L9 7).toInt ∧ ¬ (aC (L9 + 1 + 11 + 2 * (xs (i + 1).toNatClampNeg).toInt.toNat) 10).toInt = -1 ∧ 0 ≤ (xs (i + 2).toNatClampNeg).toInt ∧ (xs (i + 2).toNatClampNeg).toInt ≤ 1
  · obtain ⟨a1, b1, v1, x1, hI1, hp1, hMt⟩ := cL_worst_ret l D k H.size sa qC (xs (i + 1).toNatClampNeg) (xs (i + 2).toNatClampNeg) out g (pc_worst hK aC bC v L9 h0 (xs (i + 1).toNatClampNeg) (xs (i + 2).toNatClampNeg) hB.1 hg)
    refine lw_stat I hJ hX hMt (lw_ws4 lr_33 lr_34 lr_27 lr_35) ⟨rfl, (by decide : (parseMethodDescriptor yL_worst.desc).map (fun d => d.parameters.length) = some 4)⟩ rfl dL_law_959 hl.1 rfl ⟨by omega, by omega⟩ (fun H1 locs1 hJ1 => ?_)
    refine W.widen (k := cells + 1) (n := slots + 6) (by omega) (by omega) ?_
    exact lt_worst I hK hI1 hB.2.1 (hB.2.2.keepC hp1) hJ1 hl hin ⟨by omega, by omega⟩ kk
  · refine lw_stat I hJ hX (cL_worst_thr l hst D k H.size sa qC hB.1.1 h0 hL9 (xs (i + 1).toNatClampNeg) (xs (i + 2).toNatClampNeg) hg out g) (lw_ws4 lr_33 lr_34 lr_27 lr_35) ⟨rfl, (by decide : (parseMethodDescriptor yL_worst.desc).map (fun d => d.parameters.length) = some 4)⟩ rfl dL_law_959 hl.1 rfl ⟨by omega, by omega⟩ (fun H1 locs1 hJ1 => ?_)
    exact lt_worst I hK ⟨RC.mono hB.1.1, hB.1.2⟩ hB.2.1 hB.2.2 hJ1 hl hin ⟨by omega, by omega⟩ kk
