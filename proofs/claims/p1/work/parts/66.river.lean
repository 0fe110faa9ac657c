abbrev p_thr : List Cond := (p_own RX12 195 13 prog_32_method_4_code "java/util/NoSuchElementException" "java/lang/RuntimeException" ["java/lang/Exception"]).filter vx_no
def pX (is : Nat) (tx : String) (sa : Nat) (A : Nat → Prop) (U : State) : Prop := vx_Zq Bundle.tN "UNASSIGNED_STACK" Bundle.steD A U U.heap ∧ vx_Zq Bundle.tN "SUPPRESSED_SENTINEL" Bundle.listD A U U.heap ∧ vk_R RX12 is tx sa U ∧ va_Nw (.castable "java/util/NoSuchElementException" "java/util/NoSuchElementException") U ∧ va_Nw (.declares (Bundle.initS "java/lang/RuntimeException")) U ∧ va_Nw (.declares (Bundle.initS "java/lang/Exception")) U ∧ va_Nw (.declares (Bundle.initS Bundle.tN)) U
theorem pX.to {is : Nat} {tx : String} {sa : Nat} {A A2 : Nat → Prop} {s U : State} {H : Heap} {locs : List Loc} (h : pX is tx sa A s) (hS : va_S A s.heap H locs) (hU : U.heap = H) (hW : s.WarmedH U.vm) (hAA : ∀ q, A2 q → A q) : pX is tx sa A2 U := by
  obtain ⟨h1, h2, h3, h4, h5, h6, h7⟩ := h
  refine ⟨?_, ?_, h3.warm hW, va_Nw.warmC hW h4, va_Nw.warmD hW h5, va_Nw.warmD hW h6, va_Nw.warmD hW h7⟩
  · rw [hU]; exact vx_Zq.narrow (vx_Zq.moved hW.alike (h1.kept hS.2.1)) hAA
  · rw [hU]; exact vx_Zq.narrow (vx_Zq.moved hW.alike (h2.kept hS.2.1)) hAA
theorem pX.blind {is : Nat} {tx : String} {sa : Nat} {A : Nat → Prop} {U : State} {g : JFrame} {mk : MethodId} {a : Array Value} (h : pX is tx sa A U) : pX is tx sa A (U.calling g mk a) := by
  obtain ⟨h1, h2, h3, h4, h5, h6, h7⟩ := h
  exact ⟨vx_Zq.moved (u := U) (U := U.calling g mk a) (Vm.Alike.refl U.vm) h1, vx_Zq.moved (u := U) (U := U.calling g mk a) (Vm.Alike.refl U.vm) h2, vk_R.same (u := U) (U := U.calling g mk a) rfl h3, va_Nw.same (u := U) (U := U.calling g mk a) rfl rfl h4, va_Nw.same (u := U) (U := U.calling g mk a) rfl rfl h5, va_Nw.same (u := U) (U := U.calling g mk a) rfl rfl h6, va_Nw.same (u := U) (U := U.calling g mk a) rfl rfl h7⟩
theorem p_thr_no : ∀ w ∈ p_thr.filter (fun w => !goodWord w), w ∈ [Cond.castable "java/util/NoSuchElementException" "java/util/NoSuchElementException", Cond.declares (Bundle.initS "java/lang/RuntimeException"), Cond.declares (Bundle.initS "java/lang/Exception"), Cond.declares (Bundle.initS Bundle.tN)] := by decide +kernel
theorem p_thr_ot (is : Nat) : ∀ w ∈ Cond.classLink RX12 191 "java/util/NoSuchElementException" :: Cond.initialized "java/util/NoSuchElementException" :: p_thr, vx_ot w = true := by decide +kernel

def pw_river : List Cond := .code yX12_river cX12_river 4 (some .int) :: ([.methodLink RX12 154 yX12_isRiver, .instanceMethod yX12_isRiver, .selects RX12 yX12_isRiver yX12_isRiver, .initialized RX12, .code yX12_isRiver cX12_isRiver 2 (some .boolean), .fieldLink RX12 19 "RiverVows" "country" "LRiverVows$Land;", .fieldLink RX12 151 "RiverVows$Land" "rivers" "I", .classLink RX12 191 "java/util/NoSuchElementException", .initialized "java/util/NoSuchElementException"] ++ wsX120 ++ wsX30 ++ p_thr.filter goodWord)

set_option maxRecDepth 20000 in
theorem pg_river_0 : GoodIn pw_river (wsV RX12 154 RX12 yX12_isRiver pw_isRiver) := goodIn_sub (by decide +kernel) (by decide +kernel)

abbrev pXP_river (D : va_G) (k : Nat → ClassId) (sz sa : Nat) (ws : va_W) : State → Prop := fun U => pPre D k ws sz U ∧ pX 193 "no such river, or nothing such of it" sa (va_A ws sz) U
abbrev pXM_river (l : Launch) (D : va_G) (k : Nat → ClassId) (sz sa : Nat) (qa : Nat → Nat) (p0 p1 : Int32) : Prop := vx_Met l yX12_river pw_river ({ frames := 20, cells := 1, slots := 6, locals := 200 } : Room) (va_Pc [.ref (qa 0), .int p0, .int p1] (pXP_river D k sz sa [((qa 0), .inr (9, [.ref (qa 1), .ref (qa 6), .ref (qa 9), .ref (qa 17), .ref (qa 18), .ref (qa 19), .ref (qa 20), .ref (qa 23), .ref (qa 25), .ref (qa 28), .ref (qa 29), .ref (qa 30), .ref (qa 31), .int 0, .int 0, .int 0])), ((qa 30), .inr (2, [.ref (qa 133), .ref (qa 134), .ref (qa 135), .ref (qa 136), .ref (qa 137), .ref (qa 138), .ref (qa 139), .int 0, .int 0, .int 0, .int 0, .int 0]))])) (va_Qi (fun (r : Int32) (u : Unit) => False) (fun _ _ => True) (va_A [((qa 0), .inr (9, [.ref (qa 1), .ref (qa 6), .ref (qa 9), .ref (qa 17), .ref (qa 18), .ref (qa 19), .ref (qa 20), .ref (qa 23), .ref (qa 25), .ref (qa 28), .ref (qa 29), .ref (qa 30), .ref (qa 31), .int 0, .int 0, .int 0])), ((qa 30), .inr (2, [.ref (qa 133), .ref (qa 134), .ref (qa 135), .ref (qa 136), .ref (qa 137), .ref (qa 138), .ref (qa 139), .int 0, .int 0, .int 0, .int 0, .int 0]))] sz)) (vx_X (fun (_ : Unit) => True) (fun E _ _ => E = "java/util/NoSuchElementException") (va_A [((qa 0), .inr (9, [.ref (qa 1), .ref (qa 6), .ref (qa 9), .ref (qa 17), .ref (qa 18), .ref (qa 19), .ref (qa 20), .ref (qa 23), .ref (qa 25), .ref (qa 28), .ref (qa 29), .ref (qa 30), .ref (qa 31), .int 0, .int 0, .int 0])), ((qa 30), .inr (2, [.ref (qa 133), .ref (qa 134), .ref (qa 135), .ref (qa 136), .ref (qa 137), .ref (qa 138), .ref (qa 139), .int 0, .int 0, .int 0, .int 0, .int 0]))] sz)) 1 6 (va_A [((qa 0), .inr (9, [.ref (qa 1), .ref (qa 6), .ref (qa 9), .ref (qa 17), .ref (qa 18), .ref (qa 19), .ref (qa 20), .ref (qa 23), .ref (qa 25), .ref (qa 28), .ref (qa 29), .ref (qa 30), .ref (qa 31), .int 0, .int 0, .int 0])), ((qa 30), .inr (2, [.ref (qa 133), .ref (qa 134), .ref (qa 135), .ref (qa 136), .ref (qa 137), .ref (qa 138), .ref (qa 139), .int 0, .int 0, .int 0, .int 0, .int 0]))] sz)
set_option maxHeartbeats 4000000 in
set_option maxRecDepth 100000 in
theorem cx_river (l : Launch) (hst : l.stackTraces = false) (D : va_G) (k : Nat → ClassId) (sz sa : Nat) (qa : Nat → Nat) (p0 p1 : Int32) : pXM_river l D k sz sa qa p0 p1 := by
  refine vx_ofW (cc := cX12_river) (maxL := 4) (ret := some .int) (by decide) rfl ?_
  intro p e s m args below meth c s₁ B hml htab hv
  obtain ⟨rfl, ⟨hsz, hP, hK, hN, hD0⟩, hXX⟩ := hv
  have hx := B.exec
  have hb := B.bytes
  have hts := atoms_spec (ws := pw_river) B.pre
  have hown : s.vm.findClass RX12 = some m.cls := findClass_of_methodNamed B.named
  have hlocks := B.notSynchronized
  subst hsz
  have hD := hD0.self (sz := s.heap.size)
  have hA : ∀ q : Nat, s.heap.size ≤ q → va_A [((qa 0), .inr (9, [.ref (qa 1), .ref (qa 6), .ref (qa 9), .ref (qa 17), .ref (qa 18), .ref (qa 19), .ref (qa 20), .ref (qa 23), .ref (qa 25), .ref (qa 28), .ref (qa 29), .ref (qa 30), .ref (qa 31), .int 0, .int 0, .int 0])), ((qa 30), .inr (2, [.ref (qa 133), .ref (qa 134), .ref (qa 135), .ref (qa 136), .ref (qa 137), .ref (qa 138), .ref (qa 139), .int 0, .int 0, .int 0, .int 0, .int 0]))] s.heap.size q := fun q h => Or.inr h
  have hS : va_S (va_A [((qa 0), .inr (9, [.ref (qa 1), .ref (qa 6), .ref (qa 9), .ref (qa 17), .ref (qa 18), .ref (qa 19), .ref (qa 20), .ref (qa 23), .ref (qa 25), .ref (qa 28), .ref (qa 29), .ref (qa 30), .ref (qa 31), .int 0, .int 0, .int 0])), ((qa 30), .inr (2, [.ref (qa 133), .ref (qa 134), .ref (qa 135), .ref (qa 136), .ref (qa 137), .ref (qa 138), .ref (qa 139), .int 0, .int 0, .int 0, .int 0, .int 0]))] s.heap.size) s.heap s.heap [] := va_S.rf
  have hl := lv_entry [.ref (qa 0), .int p0, .int p1] (n := 4) (Nat.le_of_ble_eq_true rfl)
  rw [lg_entry_eq]
  generalize (lg_sl [.ref (qa 0), .int p0, .int p1] ++ List.replicate (4 - (lg_sl [.ref (qa 0), .int p0, .int p1]).length) Slot.unset).toArray = ls at hl ⊢
  have hl : lv_has ls 4 [(0, .ref (qa 0)), (1, .int p0), (2, .int p1)] := hl
  refine lv_aload_n hx hb dX12_river_0 rfl (lv_at hl 0 rfl) ?_
  refine lv_iload_n hx hb dX12_river_1 rfl (lv_at hl 1 rfl) ?_
  refine p_ji (wr := []) (va_runV (As := [.int p0]) (rest := []) ⟨hx, hb, hml, hown, hts⟩ (c_isRiver l D k _ qa p0) (cwV 1 hts pg_river_0 rfl rfl rfl (by decide +kernel) ⟨Nat.le_of_ble_eq_true rfl, Nat.le_of_ble_eq_true rfl⟩) (pV hK hN hP hD [0, 1] rfl (by decide) rfl 0 rfl rfl) rfl rfl hl.1 rfl (lv_room (Nat.le_of_ble_eq_true rfl)) dX12_river_2 ⟨by decide, by decide⟩) hP hD hS hA [0, 1] [] rfl rfl (by decide) (by decide) (fun r u H locs hw hP hD hS => ?_)
  have hw : r = 0 := hw
  subst hw
  refine lv_if_eq (tgt := 18) hx hb dX12_river_5 (by decide) (fun _ => ?_) (fun h9 => absurd rfl h9)
  have ck := hts (.classLink RX12 191 "java/util/NoSuchElementException") (by decide +kernel)
  have ci := hts (.initialized "java/util/NoSuchElementException") (by decide +kernel)
  obtain ⟨hU, hN2, hstr, q4, q5, q6, q7⟩ := hXX
  have hat : ∀ w ∈ p_thr, w.before [.ref (qa 0), .int p0, .int p1].toArray s = true := vx_hat (fun w h => hts w (List.mem_cons_of_mem _ (List.mem_append_right _ h))) p_thr_no (vx_c (va_Nw.use rfl q4) (vx_c (va_Nw.use rfl q5) (vx_c (va_Nw.use rfl q6) (vx_c (va_Nw.use rfl q7) vx_n))))
  exact p_throwS (by9 := prog_32_method_4_code) (ix := 13) (ic := 195) (Yn := "java/lang/RuntimeException") (names := ["java/lang/Exception"]) (sa := sa) hx hb hst (by decide +kernel) (by decide +kernel) (by decide +kernel) (by decide +kernel) hown (by decide +kernel) (by decide +kernel) (by decide +kernel) ck ci hstr hat (p_thr_ot 0) hU hN2 hS (hl.1.trans hml.symm) dX12_river_18 dX12_river_21 dX12_river_22 dX12_river_24 dX12_river_27 (fun x h => (htab x h).elim) (by decide) (Nat.le_of_ble_eq_true rfl) (Nat.le_of_ble_eq_true rfl) (Nat.le_of_ble_eq_true rfl) hlocks (fun t ha hz hk => ⟨(), trivial, rfl, Nat.le_trans hS.1 hz, fun q h1 h2 => (hk q (Nat.lt_of_lt_of_le h1 hS.1)).trans (hS.2.1 q h1 h2)⟩) hS.2.2 (Nat.le_refl _) (Nat.le_refl _)

def pw_Lriver : List Cond := .codeWith yL_river cL_river 5 (some .int) [(0, 10, 13, 13)] :: ([.methodLink RL 7 yX12_river, .instanceMethod yX12_river, .selects RX12 yX12_river yX12_river, .initialized RX12, .classLink RL 13 "java/util/NoSuchElementException"] ++ pw_river)

set_option maxRecDepth 20000 in
theorem pg_Lriver_0 : GoodIn pw_Lriver (wsV RL 7 RX12 yX12_river pw_river) := goodIn_sub (by decide +kernel) (by decide +kernel)

set_option maxHeartbeats 4000000 in
set_option maxRecDepth 100000 in
theorem cL_river_ok (l : Launch) (hst : l.stackTraces = false) (D : va_G) (k : Nat → ClassId) (sz sa : Nat) (qa : Nat → Nat) (p0 p1 : Int32) (out : Nat) : Met l yL_river pw_Lriver ({ frames := 21, cells := 1, slots := 6, locals := 230 } : Room) (va_Pc [.ref (qa 0), .int p0, .int p1, .ref out] (pXP_river D k sz sa [((qa 0), .inr (9, [.ref (qa 1), .ref (qa 6), .ref (qa 9), .ref (qa 17), .ref (qa 18), .ref (qa 19), .ref (qa 20), .ref (qa 23), .ref (qa 25), .ref (qa 28), .ref (qa 29), .ref (qa 30), .ref (qa 31), .int 0, .int 0, .int 0])), ((qa 30), .inr (2, [.ref (qa 133), .ref (qa 134), .ref (qa 135), .ref (qa 136), .ref (qa 137), .ref (qa 138), .ref (qa 139), .int 0, .int 0, .int 0, .int 0, .int 0]))])) (va_Qi (fun (r : Int32) (u : Unit) => r = 1) (pB D [((qa 0), .inr (9, [.ref (qa 1), .ref (qa 6), .ref (qa 9), .ref (qa 17), .ref (qa 18), .ref (qa 19), .ref (qa 20), .ref (qa 23), .ref (qa 25), .ref (qa 28), .ref (qa 29), .ref (qa 30), .ref (qa 31), .int 0, .int 0, .int 0])), ((qa 30), .inr (2, [.ref (qa 133), .ref (qa 134), .ref (qa 135), .ref (qa 136), .ref (qa 137), .ref (qa 138), .ref (qa 139), .int 0, .int 0, .int 0, .int 0, .int 0]))] sz (fun _ => [])) (va_A [((qa 0), .inr (9, [.ref (qa 1), .ref (qa 6), .ref (qa 9), .ref (qa 17), .ref (qa 18), .ref (qa 19), .ref (qa 20), .ref (qa 23), .ref (qa 25), .ref (qa 28), .ref (qa 29), .ref (qa 30), .ref (qa 31), .int 0, .int 0, .int 0])), ((qa 30), .inr (2, [.ref (qa 133), .ref (qa 134), .ref (qa 135), .ref (qa 136), .ref (qa 137), .ref (qa 138), .ref (qa 139), .int 0, .int 0, .int 0, .int 0, .int 0]))] sz)) 1 6 (va_A [((qa 0), .inr (9, [.ref (qa 1), .ref (qa 6), .ref (qa 9), .ref (qa 17), .ref (qa 18), .ref (qa 19), .ref (qa 20), .ref (qa 23), .ref (qa 25), .ref (qa 28), .ref (qa 29), .ref (qa 30), .ref (qa 31), .int 0, .int 0, .int 0])), ((qa 30), .inr (2, [.ref (qa 133), .ref (qa 134), .ref (qa 135), .ref (qa 136), .ref (qa 137), .ref (qa 138), .ref (qa 139), .int 0, .int 0, .int 0, .int 0, .int 0]))] sz) := by
  refine va_MetW (cc := cL_river) (maxL := 5) (ret := some .int) (hh := [(0, 10, 13, 13)]) (by decide) rfl ?_
  intro p e s m args below meth c s₁ B hml hv
  obtain ⟨rfl, ⟨hsz, hP, hK, hN, hD0⟩, hXX⟩ := hv
  have hx := B.exec
  have hb := B.bytes
  have hr := B.returns
  have hts := atoms_spec (ws := pw_Lriver) B.pre
  have hown : s.vm.findClass RL = some m.cls := findClass_of_methodNamed B.named
  have hlocks := B.notSynchronized
  have htab : c.exceptionTable.toList = tableOf [(0, 10, 13, 13)] := vx_table (x := yL_river) B (hts _ List.mem_cons_self)
  subst hsz
  have hD := hD0.self (sz := s.heap.size)
  have hA : ∀ q : Nat, s.heap.size ≤ q → va_A [((qa 0), .inr (9, [.ref (qa 1), .ref (qa 6), .ref (qa 9), .ref (qa 17), .ref (qa 18), .ref (qa 19), .ref (qa 20), .ref (qa 23), .ref (qa 25), .ref (qa 28), .ref (qa 29), .ref (qa 30), .ref (qa 31), .int 0, .int 0, .int 0])), ((qa 30), .inr (2, [.ref (qa 133), .ref (qa 134), .ref (qa 135), .ref (qa 136), .ref (qa 137), .ref (qa 138), .ref (qa 139), .int 0, .int 0, .int 0, .int 0, .int 0]))] s.heap.size q := fun q h => Or.inr h
  have hS : va_S (va_A [((qa 0), .inr (9, [.ref (qa 1), .ref (qa 6), .ref (qa 9), .ref (qa 17), .ref (qa 18), .ref (qa 19), .ref (qa 20), .ref (qa 23), .ref (qa 25), .ref (qa 28), .ref (qa 29), .ref (qa 30), .ref (qa 31), .int 0, .int 0, .int 0])), ((qa 30), .inr (2, [.ref (qa 133), .ref (qa 134), .ref (qa 135), .ref (qa 136), .ref (qa 137), .ref (qa 138), .ref (qa 139), .int 0, .int 0, .int 0, .int 0, .int 0]))] s.heap.size) s.heap s.heap [] := va_S.rf
  have hl := lv_entry [.ref (qa 0), .int p0, .int p1, .ref out] (n := 5) (Nat.le_of_ble_eq_true rfl)
  rw [lg_entry_eq]
  generalize (lg_sl [.ref (qa 0), .int p0, .int p1, .ref out] ++ List.replicate (5 - (lg_sl [.ref (qa 0), .int p0, .int p1, .ref out]).length) Slot.unset).toArray = ls at hl ⊢
  have hl : lv_has ls 5 [(0, .ref (qa 0)), (1, .int p0), (2, .int p1), (3, .ref out)] := hl
  refine lv_aload_n hx hb dL_river_0 rfl (lv_at hl 3 rfl) ?_
  refine lv_iconst (v := 0) hx hb dL_river_1 (by decide) ?_
  refine lv_aload_n hx hb dL_river_2 rfl (lv_at hl 0 rfl) ?_
  refine lv_iload_n hx hb dL_river_3 rfl (lv_at hl 1 rfl) ?_
  refine lv_iload_n hx hb dL_river_4 rfl (lv_at hl 2 rfl) ?_
  have hFc := va_free (wc := [((qa 0), .inr (9, [.ref (qa 1), .ref (qa 6), .ref (qa 9), .ref (qa 17), .ref (qa 18), .ref (qa 19), .ref (qa 20), .ref (qa 23), .ref (qa 25), .ref (qa 28), .ref (qa 29), .ref (qa 30), .ref (qa 31), .int 0, .int 0, .int 0])), ((qa 30), .inr (2, [.ref (qa 133), .ref (qa 134), .ref (qa 135), .ref (qa 136), .ref (qa 137), .ref (qa 138), .ref (qa 139), .int 0, .int 0, .int 0, .int 0, .int 0]))]) hD hS hA [0, 1] rfl
  refine vx_calli (vx_runV (As := [.int p0, .int p1]) (rest := [.int 0, .ref out]) ⟨hx, hb, hml, hown, hts⟩ (cx_river l hst D k s.heap.size sa qa p0 p1) (cwV 2 hts pg_Lriver_0 rfl rfl rfl (by decide +kernel) ⟨Nat.le_of_ble_eq_true rfl, Nat.le_of_ble_eq_true rfl⟩) ⟨fun a U g mk q => by obtain ⟨q0, ⟨q1, qP, qK, qN, qD⟩, qX⟩ := q; exact ⟨q0, ⟨q1, qP, va_K.moved (u := U) (U := U.calling g mk a) (Vm.Alike.refl U.vm) qK, pN.same (s := U) (U := U.calling g mk a) rfl qN, qD⟩, qX.blind⟩, va_recv hK hP (ci := 9) (q0 := 0) rfl rfl, fun U hU hW => ⟨rfl, ⟨by rw [hU], by rw [hU]; exact hP, va_K.moved hW.alike hK, hN.warm hW, hD0⟩, hXX.to hS hU hW (fun _ h => h)⟩⟩ rfl rfl hl.1 rfl (lv_room (Nat.le_of_ble_eq_true rfl)) dL_river_5 ⟨by decide, by decide⟩) hS (fun q _ h => hFc q h) hFc (fun q _ h => hFc q h) (fun E ce q9 u t H1 locs ht hvm hpx hBX hz1 hk1 hS hce hcv hcl => ?_) (fun r u t H1 locs ht hvm hw hB hz1 hk1 hS => hw.elim)
  subst hBX
  have ck := hts (.classLink RL 13 "java/util/NoSuchElementException") (by decide +kernel)
  obtain ⟨hU, hN2, hstr, q4, q5, q6, q7⟩ := hXX
  refine vx_catch hown [] _ [] htab (fun z h => nomatch h) (by decide +kernel) (by decide +kernel) ck (va_Nw.use rfl q4) hce hcv hcl ?_
  refine lv_astore (lv' := [(4, .ref q9), (0, .ref (qa 0)), (1, .int p0), (2, .int p1), (3, .ref out)]) hx hb dL_river_13 hl (by decide) rfl (fun ls hl => ?_)
  refine lv_iconst (v := 1) hx hb dL_river_15 (by decide) ?_
  exact W.iret (v := 1) hx hb hr (fun t ht hW => ⟨⟨1, (), rfl, rfl, (fun k q h => by simp at h), ⟨fun i j p q h => by simp at h, fun k q h => by simp at h⟩⟩, hS.F ht⟩) hS.2.2 dL_river_16 hlocks

def pw_worst : List Cond := .code yX12_worst cX12_worst 6 (some .int) :: ([.methodLink RX12 348 yX12_hasTown, .instanceMethod yX12_hasTown, .selects RX12 yX12_hasTown yX12_hasTown, .initialized RX12, .code yX12_hasTown cX12_hasTown 2 (some .boolean), .code yX12_isRiver cX12_isRiver 2 (some .boolean), .fieldLink RX12 19 "RiverVows" "country" "LRiverVows$Land;", .fieldLink RX12 151 "RiverVows$Land" "rivers" "I", .methodLink RX12 154 yX12_isRiver, .instanceMethod yX12_isRiver, .selects RX12 yX12_isRiver yX12_isRiver, .classLink RX12 191 "java/util/NoSuchElementException", .initialized "java/util/NoSuchElementException"] ++ wsX120 ++ wsX30 ++ p_thr.filter goodWord)

set_option maxRecDepth 20000 in
theorem pg_worst_0 : GoodIn pw_worst (wsV RX12 348 RX12 yX12_hasTown pw_hasTown) := goodIn_sub (by decide +kernel) (by decide +kernel)

abbrev pXP_worst (D : va_G) (k : Nat → ClassId) (sz sa : Nat) (ws : va_W) : State → Prop := fun U => pPre D k ws sz U ∧ pX 351 "no such town, or nothing such of it" sa (va_A ws sz) U
abbrev pXM_worst (l : Launch) (D : va_G) (k : Nat → ClassId) (sz sa : Nat) (qa : Nat → Nat) (p0 p1 : Int32) : Prop := vx_Met l yX12_worst pw_worst ({ frames := 20, cells := 1, slots := 6, locals := 200 } : Room) (va_Pc [.ref (qa 0), .int p0, .int p1] (pXP_worst D k sz sa [((qa 0), .inr (9, [.ref (qa 1), .ref (qa 6), .ref (qa 9), .ref (qa 17), .ref (qa 18), .ref (qa 19), .ref (qa 20), .ref (qa 23), .ref (qa 25), .ref (qa 28), .ref (qa 29), .ref (qa 30), .ref (qa 31), .int 0, .int 0, .int 0])), ((qa 30), .inr (2, [.ref (qa 133), .ref (qa 134), .ref (qa 135), .ref (qa 136), .ref (qa 137), .ref (qa 138), .ref (qa 139), .int 0, .int 0, .int 0, .int 0, .int 0]))])) (va_Qi (fun (r : Int32) (u : Unit) => False) (fun _ _ => True) (va_A [((qa 0), .inr (9, [.ref (qa 1), .ref (qa 6), .ref (qa 9), .ref (qa 17), .ref (qa 18), .ref (qa 19), .ref (qa 20), .ref (qa 23), .ref (qa 25), .ref (qa 28), .ref (qa 29), .ref (qa 30), .ref (qa 31), .int 0, .int 0, .int 0])), ((qa 30), .inr (2, [.ref (qa 133), .ref (qa 134), .ref (qa 135), .ref (qa 136), .ref (qa 137), .ref (qa 138), .ref (qa 139), .int 0, .int 0, .int 0, .int 0, .int 0]))] sz)) (vx_X (fun (_ : Unit) => True) (fun E _ _ => E = "java/util/NoSuchElementException") (va_A [((qa 0), .inr (9, [.ref (qa 1), .ref (qa 6), .ref (qa 9), .ref (qa 17), .ref (qa 18), .ref (qa 19), .ref (qa 20), .ref (qa 23), .ref (qa 25), .ref (qa 28), .ref (qa 29), .ref (qa 30), .ref (qa 31), .int 0, .int 0, .int 0])), ((qa 30), .inr (2, [.ref (qa 133), .ref (qa 134), .ref (qa 135), .ref (qa 136), .ref (qa 137), .ref (qa 138), .ref (qa 139), .int 0, .int 0, .int 0, .int 0, .int 0]))] sz)) 1 6 (va_A [((qa 0), .inr (9, [.ref (qa 1), .ref (qa 6), .ref (qa 9), .ref (qa 17), .ref (qa 18), .ref (qa 19), .ref (qa 20), .ref (qa 23), .ref (qa 25), .ref (qa 28), .ref (qa 29), .ref (qa 30), .ref (qa 31), .int 0, .int 0, .int 0])), ((qa 30), .inr (2, [.ref (qa 133), .ref (qa 134), .ref (qa 135), .ref (qa 136), .ref (qa 137), .ref (qa 138), .ref (qa 139), .int 0, .int 0, .int 0, .int 0, .int 0]))] sz)
set_option maxHeartbeats 4000000 in
set_option maxRecDepth 100000 in
theorem cx_worst (l : Launch) (hst : l.stackTraces = false) (D : va_G) (k : Nat → ClassId) (sz sa : Nat) (qa : Nat → Nat) (p0 p1 : Int32) : pXM_worst l D k sz sa qa p0 p1 := by
  refine vx_ofW (cc := cX12_worst) (maxL := 6) (ret := some .int) (by decide) rfl ?_
  intro p e s m args below meth c s₁ B hml htab hv
  obtain ⟨rfl, ⟨hsz, hP, hK, hN, hD0⟩, hXX⟩ := hv
  have hx := B.exec
  have hb := B.bytes
  have hts := atoms_spec (ws := pw_worst) B.pre
  have hown : s.vm.findClass RX12 = some m.cls := findClass_of_methodNamed B.named
  have hlocks := B.notSynchronized
  subst hsz
  have hD := hD0.self (sz := s.heap.size)
  have hA : ∀ q : Nat, s.heap.size ≤ q → va_A [((qa 0), .inr (9, [.ref (qa 1), .ref (qa 6), .ref (qa 9), .ref (qa 17), .ref (qa 18), .ref (qa 19), .ref (qa 20), .ref (qa 23), .ref (qa 25), .ref (qa 28), .ref (qa 29), .ref (qa 30), .ref (qa 31), .int 0, .int 0, .int 0])), ((qa 30), .inr (2, [.ref (qa 133), .ref (qa 134), .ref (qa 135), .ref (qa 136), .ref (qa 137), .ref (qa 138), .ref (qa 139), .int 0, .int 0, .int 0, .int 0, .int 0]))] s.heap.size q := fun q h => Or.inr h
  have hS : va_S (va_A [((qa 0), .inr (9, [.ref (qa 1), .ref (qa 6), .ref (qa 9), .ref (qa 17), .ref (qa 18), .ref (qa 19), .ref (qa 20), .ref (qa 23), .ref (qa 25), .ref (qa 28), .ref (qa 29), .ref (qa 30), .ref (qa 31), .int 0, .int 0, .int 0])), ((qa 30), .inr (2, [.ref (qa 133), .ref (qa 134), .ref (qa 135), .ref (qa 136), .ref (qa 137), .ref (qa 138), .ref (qa 139), .int 0, .int 0, .int 0, .int 0, .int 0]))] s.heap.size) s.heap s.heap [] := va_S.rf
  have hl := lv_entry [.ref (qa 0), .int p0, .int p1] (n := 6) (Nat.le_of_ble_eq_true rfl)
  rw [lg_entry_eq]
  generalize (lg_sl [.ref (qa 0), .int p0, .int p1] ++ List.replicate (6 - (lg_sl [.ref (qa 0), .int p0, .int p1]).length) Slot.unset).toArray = ls at hl ⊢
  have hl : lv_has ls 6 [(0, .ref (qa 0)), (1, .int p0), (2, .int p1)] := hl
  refine lv_aload_n hx hb dX12_worst_0 rfl (lv_at hl 0 rfl) ?_
  refine lv_iload_n hx hb dX12_worst_1 rfl (lv_at hl 1 rfl) ?_
  refine p_ji (wr := []) (va_runV (As := [.int p0]) (rest := []) ⟨hx, hb, hml, hown, hts⟩ (c_hasTown l D k _ qa p0) (cwV 1 hts pg_worst_0 rfl rfl rfl (by decide +kernel) ⟨Nat.le_of_ble_eq_true rfl, Nat.le_of_ble_eq_true rfl⟩) (pV hK hN hP hD [0, 1] rfl (by decide) rfl 0 rfl rfl) rfl rfl hl.1 rfl (lv_room (Nat.le_of_ble_eq_true rfl)) dX12_worst_2 ⟨by decide, by decide⟩) hP hD hS hA [0, 1] [] rfl rfl (by decide) (by decide) (fun r u H locs hw hP hD hS => ?_)
  have hw : r = 0 := hw
  subst hw
  refine lv_if_eq (tgt := 17) hx hb dX12_worst_5 (by decide) (fun _ => ?_) (fun h9 => absurd rfl h9)
  have ck := hts (.classLink RX12 191 "java/util/NoSuchElementException") (by decide +kernel)
  have ci := hts (.initialized "java/util/NoSuchElementException") (by decide +kernel)
  obtain ⟨hU, hN2, hstr, q4, q5, q6, q7⟩ := hXX
  have hat : ∀ w ∈ p_thr, w.before [.ref (qa 0), .int p0, .int p1].toArray s = true := vx_hat (fun w h => hts w (List.mem_cons_of_mem _ (List.mem_append_right _ h))) p_thr_no (vx_c (va_Nw.use rfl q4) (vx_c (va_Nw.use rfl q5) (vx_c (va_Nw.use rfl q6) (vx_c (va_Nw.use rfl q7) vx_n))))
  exact p_throwSW (by9 := prog_32_method_4_code) (ix := 13) (ic := 195) (Yn := "java/lang/RuntimeException") (names := ["java/lang/Exception"]) (sa := sa) hx hb hst (by decide +kernel) (by decide +kernel) (by decide +kernel) (by decide +kernel) hown (by decide +kernel) (by decide +kernel) (by decide +kernel) ck ci hstr hat (p_thr_ot 0) hU hN2 hS (hl.1.trans hml.symm) dX12_worst_17 dX12_worst_20 dX12_worst_21 dX12_worst_24 dX12_worst_27 (fun x h => (htab x h).elim) (by decide) (Nat.le_of_ble_eq_true rfl) (Nat.le_of_ble_eq_true rfl) (Nat.le_of_ble_eq_true rfl) hlocks (fun t ha hz hk => ⟨(), trivial, rfl, Nat.le_trans hS.1 hz, fun q h1 h2 => (hk q (Nat.lt_of_lt_of_le h1 hS.1)).trans (hS.2.1 q h1 h2)⟩) hS.2.2 (Nat.le_refl _) (Nat.le_refl _)

def pw_Lworst : List Cond := .codeWith yL_worst cL_worst 5 (some .int) [(0, 10, 13, 13)] :: ([.methodLink RL 15 yX12_worst, .instanceMethod yX12_worst, .selects RX12 yX12_worst yX12_worst, .initialized RX12, .classLink RL 13 "java/util/NoSuchElementException"] ++ pw_worst)

set_option maxRecDepth 20000 in
theorem pg_Lworst_0 : GoodIn pw_Lworst (wsV RL 15 RX12 yX12_worst pw_worst) := goodIn_sub (by decide +kernel) (by decide +kernel)

set_option maxHeartbeats 4000000 in
set_option maxRecDepth 100000 in
theorem cL_worst_ok (l : Launch) (hst : l.stackTraces = false) (D : va_G) (k : Nat → ClassId) (sz sa : Nat) (qa : Nat → Nat) (p0 p1 : Int32) (out : Nat) : Met l yL_worst pw_Lworst ({ frames := 21, cells := 1, slots := 6, locals := 230 } : Room) (va_Pc [.ref (qa 0), .int p0, .int p1, .ref out] (pXP_worst D k sz sa [((qa 0), .inr (9, [.ref (qa 1), .ref (qa 6), .ref (qa 9), .ref (qa 17), .ref (qa 18), .ref (qa 19), .ref (qa 20), .ref (qa 23), .ref (qa 25), .ref (qa 28), .ref (qa 29), .ref (qa 30), .ref (qa 31), .int 0, .int 0, .int 0])), ((qa 30), .inr (2, [.ref (qa 133), .ref (qa 134), .ref (qa 135), .ref (qa 136), .ref (qa 137), .ref (qa 138), .ref (qa 139), .int 0, .int 0, .int 0, .int 0, .int 0]))])) (va_Qi (fun (r : Int32) (u : Unit) => r = 1) (pB D [((qa 0), .inr (9, [.ref (qa 1), .ref (qa 6), .ref (qa 9), .ref (qa 17), .ref (qa 18), .ref (qa 19), .ref (qa 20), .ref (qa 23), .ref (qa 25), .ref (qa 28), .ref (qa 29), .ref (qa 30), .ref (qa 31), .int 0, .int 0, .int 0])), ((qa 30), .inr (2, [.ref (qa 133), .ref (qa 134), .ref (qa 135), .ref (qa 136), .ref (qa 137), .ref (qa 138), .ref (qa 139), .int 0, .int 0, .int 0, .int 0, .int 0]))] sz (fun _ => [])) (va_A [((qa 0), .inr (9, [.ref (qa 1), .ref (qa 6), .ref (qa 9), .ref (qa 17), .ref (qa 18), .ref (qa 19), .ref (qa 20), .ref (qa 23), .ref (qa 25), .ref (qa 28), .ref (qa 29), .ref (qa 30), .ref (qa 31), .int 0, .int 0, .int 0])), ((qa 30), .inr (2, [.ref (qa 133), .ref (qa 134), .ref (qa 135), .ref (qa 136), .ref (qa 137), .ref (qa 138), .ref (qa 139), .int 0, .int 0, .int 0, .int 0, .int 0]))] sz)) 1 6 (va_A [((qa 0), .inr (9, [.ref (qa 1), .ref (qa 6), .ref (qa 9), .ref (qa 17), .ref (qa 18), .ref (qa 19), .ref (qa 20), .ref (qa 23), .ref (qa 25), .ref (qa 28), .ref (qa 29), .ref (qa 30), .ref (qa 31), .int 0, .int 0, .int 0])), ((qa 30), .inr (2, [.ref (qa 133), .ref (qa 134), .ref (qa 135), .ref (qa 136), .ref (qa 137), .ref (qa 138), .ref (qa 139), .int 0, .int 0, .int 0, .int 0, .int 0]))] sz) := by
  refine va_MetW (cc := cL_worst) (maxL := 5) (ret := some .int) (hh := [(0, 10, 13, 13)]) (by decide) rfl ?_
  intro p e s m args below meth c s₁ B hml hv
  obtain ⟨rfl, ⟨hsz, hP, hK, hN, hD0⟩, hXX⟩ := hv
  have hx := B.exec
  have hb := B.bytes
  have hr := B.returns
  have hts := atoms_spec (ws := pw_Lworst) B.pre
  have hown : s.vm.findClass RL = some m.cls := findClass_of_methodNamed B.named
  have hlocks := B.notSynchronized
  have htab : c.exceptionTable.toList = tableOf [(0, 10, 13, 13)] := vx_table (x := yL_worst) B (hts _ List.mem_cons_self)
  subst hsz
  have hD := hD0.self (sz := s.heap.size)
  have hA : ∀ q : Nat, s.heap.size ≤ q → va_A [((qa 0), .inr (9, [.ref (qa 1), .ref (qa 6), .ref (qa 9), .ref (qa 17), .ref (qa 18), .ref (qa 19), .ref (qa 20), .ref (qa 23), .ref (qa 25), .ref (qa 28), .ref (qa 29), .ref (qa 30), .ref (qa 31), .int 0, .int 0, .int 0])), ((qa 30), .inr (2, [.ref (qa 133), .ref (qa 134), .ref (qa 135), .ref (qa 136), .ref (qa 137), .ref (qa 138), .ref (qa 139), .int 0, .int 0, .int 0, .int 0, .int 0]))] s.heap.size q := fun q h => Or.inr h
  have hS : va_S (va_A [((qa 0), .inr (9, [.ref (qa 1), .ref (qa 6), .ref (qa 9), .ref (qa 17), .ref (qa 18), .ref (qa 19), .ref (qa 20), .ref (qa 23), .ref (qa 25), .ref (qa 28), .ref (qa 29), .ref (qa 30), .ref (qa 31), .int 0, .int 0, .int 0])), ((qa 30), .inr (2, [.ref (qa 133), .ref (qa 134), .ref (qa 135), .ref (qa 136), .ref (qa 137), .ref (qa 138), .ref (qa 139), .int 0, .int 0, .int 0, .int 0, .int 0]))] s.heap.size) s.heap s.heap [] := va_S.rf
  have hl := lv_entry [.ref (qa 0), .int p0, .int p1, .ref out] (n := 5) (Nat.le_of_ble_eq_true rfl)
  rw [lg_entry_eq]
  generalize (lg_sl [.ref (qa 0), .int p0, .int p1, .ref out] ++ List.replicate (5 - (lg_sl [.ref (qa 0), .int p0, .int p1, .ref out]).length) Slot.unset).toArray = ls at hl ⊢
  have hl : lv_has ls 5 [(0, .ref (qa 0)), (1, .int p0), (2, .int p1), (3, .ref out)] := hl
  refine lv_aload_n hx hb dL_worst_0 rfl (lv_at hl 3 rfl) ?_
  refine lv_iconst (v := 0) hx hb dL_worst_1 (by decide) ?_
  refine lv_aload_n hx hb dL_worst_2 rfl (lv_at hl 0 rfl) ?_
  refine lv_iload_n hx hb dL_worst_3 rfl (lv_at hl 1 rfl) ?_
  refine lv_iload_n hx hb dL_worst_4 rfl (lv_at hl 2 rfl) ?_
  have hFc := va_free (wc := [((qa 0), .inr (9, [.ref (qa 1), .ref (qa 6), .ref (qa 9), .ref (qa 17), .ref (qa 18), .ref (qa 19), .ref (qa 20), .ref (qa 23), .ref (qa 25), .ref (qa 28), .ref (qa 29), .ref (qa 30), .ref (qa 31), .int 0, .int 0, .int 0])), ((qa 30), .inr (2, [.ref (qa 133), .ref (qa 134), .ref (qa 135), .ref (qa 136), .ref (qa 137), .ref (qa 138), .ref (qa 139), .int 0, .int 0, .int 0, .int 0, .int 0]))]) hD hS hA [0, 1] rfl
  refine vx_calli (vx_runV (As := [.int p0, .int p1]) (rest := [.int 0, .ref out]) ⟨hx, hb, hml, hown, hts⟩ (cx_worst l hst D k s.heap.size sa qa p0 p1) (cwV 2 hts pg_Lworst_0 rfl rfl rfl (by decide +kernel) ⟨Nat.le_of_ble_eq_true rfl, Nat.le_of_ble_eq_true rfl⟩) ⟨fun a U g mk q => by obtain ⟨q0, ⟨q1, qP, qK, qN, qD⟩, qX⟩ := q; exact ⟨q0, ⟨q1, qP, va_K.moved (u := U) (U := U.calling g mk a) (Vm.Alike.refl U.vm) qK, pN.same (s := U) (U := U.calling g mk a) rfl qN, qD⟩, qX.blind⟩, va_recv hK hP (ci := 9) (q0 := 0) rfl rfl, fun U hU hW => ⟨rfl, ⟨by rw [hU], by rw [hU]; exact hP, va_K.moved hW.alike hK, hN.warm hW, hD0⟩, hXX.to hS hU hW (fun _ h => h)⟩⟩ rfl rfl hl.1 rfl (lv_room (Nat.le_of_ble_eq_true rfl)) dL_worst_5 ⟨by decide, by decide⟩) hS (fun q _ h => hFc q h) hFc (fun q _ h => hFc q h) (fun E ce q9 u t H1 locs ht hvm hpx hBX hz1 hk1 hS hce hcv hcl => ?_) (fun r u t H1 locs ht hvm hw hB hz1 hk1 hS => hw.elim)
  subst hBX
  have ck := hts (.classLink RL 13 "java/util/NoSuchElementException") (by decide +kernel)
  obtain ⟨hU, hN2, hstr, q4, q5, q6, q7⟩ := hXX
  refine vx_catch hown [] _ [] htab (fun z h => nomatch h) (by decide +kernel) (by decide +kernel) ck (va_Nw.use rfl q4) hce hcv hcl ?_
  refine lv_astore (lv' := [(4, .ref q9), (0, .ref (qa 0)), (1, .int p0), (2, .int p1), (3, .ref out)]) hx hb dL_worst_13 hl (by decide) rfl (fun ls hl => ?_)
  refine lv_iconst (v := 1) hx hb dL_worst_15 (by decide) ?_
  exact W.iret (v := 1) hx hb hr (fun t ht hW => ⟨⟨1, (), rfl, rfl, (fun k q h => by simp at h), ⟨fun i j p q h => by simp at h, fun k q h => by simp at h⟩⟩, hS.F ht⟩) hS.2.2 dL_worst_16 hlocks
