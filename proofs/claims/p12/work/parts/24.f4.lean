-- calls
def f_cats (st : List f_V) : Nat := (st.map f_cat).sum
theorem f_cats_eq (q : Nat → Nat) (st : List f_V) : ((st.map (f_v q)).map (fun v => v.category)).sum = f_cats st := by
  unfold f_cats
  rw [List.map_map]
  congr 1
  exact List.map_congr_left (fun x _ => f_cat_eq q x)
def i_invV (cf : f_C) (sh : List f_X) (mi : Nat → Option Nat) (np n : Nat) : f_I := fun s => match s.2.1[np]? with
  | some (.inr (.inr (some i))) => match sh[i]? with
    | some (.inr (ci, _)) => match mi ci with
      | some mm => if f_cats (s.2.1.drop (np + 1)) ≤ 16 then (match cf mm ((s.2.1.take (np + 1)).reverse) s.2.2 with
        | some z => some (.inl (n, s.1, z.1.toList ++ s.2.1.drop (np + 1), z.2))
        | none => none) else none
      | none => none
    | _ => none
  | _ => none
def i_invS (cf : f_C) (mm np n : Nat) : f_I := fun s => if np ≤ s.2.1.length ∧ f_cats (s.2.1.drop np) ≤ 16 then (match cf mm ((s.2.1.take np).reverse) s.2.2 with
  | some z => some (.inl (n, s.1, z.1.toList ++ s.2.1.drop np, z.2))
  | none => none) else none
theorem f_toList_map (q : Nat → Nat) (r : Option f_V) (rest : List f_V) : (r.toList ++ rest).map (f_v q) = (r.map (f_v q)).toList ++ rest.map (f_v q) := by
  cases r <;> simp
section F5
variable {p : Program} {l : Launch} {e : Env} {R : Room} {s : State} {m : MethodId} {args : Array Value} {below : List Frame} {meth : Method} {c : Code} {H : Heap} {locs : List Loc} {Q : State → Prop}
theorem f_callW {D : va_G} {k : Nat → ClassId} {q : Nat → Nat} {A : Nat → Prop} {sh : List f_X} {h h' : f_H} {v : Option Value} {a : Array Value} {pc : Nat} {ls : Array Slot} {rest st0 : List Value} (hA : ∀ q : Nat, s.heap.size ≤ q → A q) (hJ : f_J D sh k q A s h H locs)
    (hr : va_Run p l e R s m args below meth c H locs 0 0 0 0 (F0 m pc ls st0) rest (f_Q D (f_w sh k q h) H.size (f_w sh k q h') v a) (va_A (f_w sh k q h) H.size))
    (kk : ∀ (H1 : Heap) (locs1 : List Loc), f_J D sh k q A s h' H1 locs1 → W p l e R s m args below meth c H1 locs1 0 0 Q (F0 m (pc + 3) ls (v.toList ++ rest))) : W p l e R s m args below meth c H locs 0 0 Q (F0 m pc ls st0) := by
  intro T hT X
  obtain ⟨hP, hD, hS⟩ := hJ
  have hF : ∀ q0, va_A (f_w sh k q h) H.size q0 → A q0 := fun q0 h0 => by
    rcases h0 with ⟨j, e0, hj⟩ | h0
    · exact hD.2 j _ hj
    · exact hA q0 (Nat.le_trans hS.1 h0)
  obtain ⟨v1, st₀, t, T', L, h0, X', hL, e1, e2, ⟨⟨hv, hP1, hD1⟩, hz, hk⟩, st⟩ := hr T hT X
  cases hv
  rw [h0] at hz hk
  obtain ⟨t2, a1, b1⟩ := kk T'.heap (locs ++ L) ⟨by rw [e1]; exact hP1, hD1.weaken (fun _ x _ hx => hF x.1 hx), ⟨Nat.le_trans hS.1 (by rw [e1]; exact hz), fun q1 h1 h2 => by rw [e1, hk q1 (Nat.lt_of_lt_of_le h1 hS.1) (fun z => h2 (hF q1 z))]; exact hS.2.1 q1 h1 h2, fun q1 hq => by
      rcases List.mem_append.mp hq with h | h
      · exact hS.2.2 q1 h
      · exact hF _ (hL q1 h)⟩⟩ T' rfl X'
  exact ⟨t2, st t2 a1, b1⟩
theorem f_preS {D : va_G} {k : Nat → ClassId} {q : Nat → Nat} {A : Nat → Prop} {sh : List f_X} {h : f_H} {av : List Value} (hK : va_K D vwCl (pT k) s) (hN : fN q A s s.heap) (hJ : f_J D sh k q A s h H locs) (hA : ∀ q : Nat, s.heap.size ≤ q → A q) : PreS s H (va_Pc av (f_Pre D k q (f_w sh k q h) H.size)) av :=
  ⟨f_Blind, fun U hU hW => ⟨rfl, by rw [hU], by rw [hU]; exact hJ.1, va_K.moved hW.alike hK, by rw [hU]; exact hN.to hJ.2.2 hW (fun q0 h0 => by
    rcases h0 with ⟨j, e0, hj⟩ | h0
    · exact hJ.2.1.2 j _ hj
    · exact hA q0 (Nat.le_trans hJ.2.2.1 h0)), hJ.2.1.weaken (fun _ _ _ _ => trivial)⟩⟩
end F5
-- what a call site rests on
def f_calV (l : Launch) (sh : List f_X) (own : String) (idx : Nat) (T : List Cond) (rm : Room) (cf : f_C) (np ci mm : Nat) : Prop := ∃ (C : String) (TT : u_T) (N : Nat) (y : MethodName) (bytes : ByteArray) (maxL : Nat) (rt : Option FieldType) (T0 : List Cond) (rmc : Room), vwCl[ci]? = some (C, TT, N) ∧
  (y.cls = C ∧ y.cls ≠ "java/lang/invoke/MethodHandle" ∧ y.cls ≠ "java/lang/invoke/VarHandle" ∧ (parseMethodDescriptor y.desc).map (fun d => d.parameters.length) = some np) ∧ GoodIn T (wsV own idx C y (Cond.code y bytes maxL rt :: T0)) ∧ rmc.cells = 0 ∧ rmc.slots = 0 ∧ rmc.frames + 1 ≤ rm.frames ∧ 16 + (maxL + 11) + rmc.locals ≤ rm.locals ∧
  ∀ (as : List f_V) (h : f_H) (z : f_R), cf mm as h = some z → f_M l sh T0 y bytes maxL rt rmc as h z.1 z.2
def f_calS (l : Launch) (sh : List f_X) (own : String) (idx : Nat) (T : List Cond) (rm : Room) (cf : f_C) (np mm : Nat) : Prop := ∃ (y : MethodName) (bytes : ByteArray) (maxL : Nat) (rt : Option FieldType) (T0 : List Cond) (rmc : Room),
  (y.cls = own ∧ y.cls ≠ "java/lang/invoke/MethodHandle" ∧ y.cls ≠ "java/lang/invoke/VarHandle" ∧ (parseMethodDescriptor y.desc).map (fun d => d.parameters.length) = some np) ∧ GoodIn T (wsS own idx y (Cond.code y bytes maxL rt :: T0)) ∧ rmc.cells = 0 ∧ rmc.slots = 0 ∧ rmc.frames + 1 ≤ rm.frames ∧ 16 + (maxL + 11) + rmc.locals ≤ rm.locals ∧
  ∀ (as : List f_V) (h : f_H) (z : f_R), cf mm as h = some z → f_M l sh T0 y bytes maxL rt rmc as h z.1 z.2
theorem f_split {α : Type} (st : List α) (n : Nat) (x : α) (h : st[n]? = some x) : st = st.take n ++ x :: st.drop (n + 1) := by
  obtain ⟨hn, hx⟩ := List.getElem?_eq_some_iff.mp h
  rw [← hx, ← List.drop_eq_getElem_cons hn, List.take_append_drop]
theorem f_take1 {α : Type} (st : List α) (n : Nat) (x : α) (h : st[n]? = some x) : (st.take (n + 1)).reverse = x :: (st.take n).reverse := by
  obtain ⟨hn, hx⟩ := List.getElem?_eq_some_iff.mp h
  rw [List.take_succ, h]
  simp
theorem f_room16 {m : MethodId} {pc : Nat} {ls : Array Slot} {rest st : List Value} (h : (st.map fun v => v.category).sum ≤ 16) : 2 * (F0 m pc ls rest).monitorRoom + (st.map fun v => v.category).sum ≤ 16 := by
  have e : (F0 m pc ls rest).monitorRoom = 0 := rfl
  omega
section F4R
variable {p : Program} {l : Launch} {e : Env} {R : Room} {s : State} {m : MethodId} {args : Array Value} {below : List Frame} {meth : Method} {c : Code} {H : Heap} {locs : List Loc} {cells slots : Nat}
variable {y : MethodName} {bytes cc : ByteArray} {maxL nL mc ms n index : Nat} {ret : Option FieldType} {ws : List Cond} {rm : Room} {Pc : Array Value → State → Prop} {Qc : Array Value → State → Outcome → State → Prop} {free : Addr → Prop} {Ts : List Cond} {own C : String} {b : Addr} {As rest : List Value} {g : JFrame}
-- a call with up to 16 words beneath it
theorem f_back16 (hM : Met l y ws rm Pc Qc mc ms free) (cw : CallB R s args own index y bytes maxL ret ws rm mc ms n) (h16 : 16 + (maxL + 11) + rm.locals ≤ R.locals) (hb : FrameBlind Pc) : Back l R p e below s args y 3 16 (PreOf R mc ms Pc) (PostOf Qc mc ms free) := by
  obtain ⟨a1, a2, a3, -, a5, a6, -, a8, -⟩ := cw
  exact back_of (bytes := bytes) (maxL := maxL) (ret := ret) hM hb a1 a2 a3 h16 a5 a6 (fun a' U hW => word_at hW (Or.inl (by first | rfl | simp [Cond.onTables, Cond.keeps, Cond.steady])) a8)
theorem f_runV (S : CallFix p m c cc nL s args Ts own) (hM : Met l y ws rm Pc Qc mc ms free) (cw : CallW R s args own C index y bytes maxL ret ws rm mc ms n) (h16 : 16 + (maxL + 11) + rm.locals ≤ R.locals) (hp : PreV s H C b Pc As)
    (hg : g.method = m) (hn : As.length = n) (hz : g.locals.size = nL) (hst : g.stack = As.reverse ++ .ref b :: rest) (hW : 2 * g.monitorRoom + (rest.map fun v => v.category).sum ≤ 16) (hdg : decode cc g.pc = .ok (.invokevirtual index, 3)) (hf : cells + mc ≤ R.cells ∧ slots + ms ≤ R.slots) :
    va_Run p l e R s m args below meth c H locs cells slots mc ms g rest (Qc (Value.ref b :: As).toArray) (free) := by
  have hK := f_back16 (p := p) (e := e) (below := below) hM cw.1 h16 hp.1
  obtain ⟨⟨-, -, -, -, -, -, w1, -, w2, w3, w4⟩, w5, w6⟩ := cw
  obtain ⟨f1, f2, f3, f4, -⟩ := S
  obtain ⟨-, ⟨cB, p1, p2, p3⟩, p4⟩ := hp
  intro T hT X
  obtain ⟨v, vm1, ⟨U1, l2, c2, s2⟩, hW1, X1, ⟨g1, mk, t, L, e1, e2, hq, h1, hL, h2, h3⟩, st⟩ := callV X f1 (C := C) (bytes := bytes) (maxL := maxL) (ret := ret) f4 w4 w5 w6 w1 w2 hK (by rw [hT]; exact p1) p2 p3 hg (hz.trans f3.symm) (argsL := As) (rest := rest) (fun sig h => hn.trans (w3 sig h)) hst hW (by rw [f2]; exact hdg)
    (fun vm1 hW1 => ⟨hf.1, hf.2, p4 (T.setVm vm1) hT hW1⟩)
  dsimp only [Pt.U, Pt.locs, Pt.cells, Pt.slots] at X1 e1 e2 h1 h2 h3 st
  subst h1; subst h2; subst h3
  exact ⟨v, (T.setVm vm1).calling g1 mk (Value.ref b :: As).toArray, t, U1, L, hT, X1, hL, e1, e2, hq, st⟩
theorem f_runS (S : CallFix p m c cc nL s args Ts own) (hM : Met l y ws rm Pc Qc mc ms free) (cw : CallB R s args own index y bytes maxL ret ws rm mc ms n ∧ (Cond.static y).before args s = true) (h16 : 16 + (maxL + 11) + rm.locals ≤ R.locals) (hp : PreS s H Pc As)
    (hg : g.method = m) (hn : As.length = n) (hz : g.locals.size = nL) (hst : g.stack = As.reverse ++ rest) (hW : 2 * g.monitorRoom + (rest.map fun v => v.category).sum ≤ 16) (hdg : decode cc g.pc = .ok (.invokestatic index, 3)) (hf : cells + mc ≤ R.cells ∧ slots + ms ≤ R.slots) :
    va_Run p l e R s m args below meth c H locs cells slots mc ms g rest (Qc As.toArray) (free) := by
  have hK := f_back16 (p := p) (e := e) (below := below) hM cw.1 h16 hp.1
  obtain ⟨⟨-, -, -, -, -, -, w1, w0, w2, w3, w4⟩, w5⟩ := cw
  obtain ⟨f1, f2, f3, f4, -⟩ := S
  intro T hT X
  obtain ⟨v, vm1, ⟨U1, l2, c2, s2⟩, hW1, X1, ⟨g1, mk, t, L, e1, e2, hq, h1, hL, h2, h3⟩, st⟩ := callS X f1 (bytes := bytes) (maxL := maxL) (ret := ret) f4 w4 w5 w0 w1 w2 hK hg (hz.trans f3.symm) (argsL := As) (rest := rest) (fun sig h => hn.trans (w3 sig h)) hst hW (by rw [f2]; exact hdg)
    (fun vm1 hW1 => ⟨hf.1, hf.2, hp.2 (T.setVm vm1) hT hW1⟩)
  dsimp only [Pt.U, Pt.locs, Pt.cells, Pt.slots] at X1 e1 e2 h1 h2 h3 st
  subst h1; subst h2; subst h3
  exact ⟨v, (T.setVm vm1).calling g1 mk As.toArray, t, U1, L, hT, X1, hL, e1, e2, hq, st⟩
end F4R
section F6
variable {l : Launch} {sh : List f_X} {cc : ByteArray} {nL : Nat} {own : String} {T : List Cond} {rt : Option FieldType} {rm : Room} {pc : Nat} {cf : f_C}
theorem ok_invV {mi : Nat → Option Nat} {np idx : Nat} (hd : decode cc pc = .ok (.invokevirtual idx, 3)) (hm : ∀ ci mm, mi ci = some mm → f_calV l sh own idx T rm cf np ci mm) : f_ok l sh cc nL own T rt rm pc (i_invV cf sh mi np (pc + 3)) := by
  intro p e s m args below meth c Q D k q A hE lo st h ls H locs hl hJ o ho hk
  obtain ⟨hx, hb, hml, hown, hts, hK, hN, hA⟩ := hE
  unfold i_invV at ho
  dsimp only at ho
  split at ho
  · rename_i i hi
    split at ho
    · rename_i ci ks hs
      split at ho
      · rename_i mm hmm
        split at ho
        · rename_i hcat
          split at ho
          · rename_i z hz
            cases ho
            obtain ⟨C, TT, N, y, bytes, maxL, rt0, T0, rmc, hcl, hd2, hG, hrc, hrs, hfr, hlo, hcf⟩ := hm ci mm hmm
            rw [f_take1 st np _ hi] at hz
            have hM := hcf _ _ _ hz D k q H.size
            have hst : st.map (f_v q) = ((st.take np).reverse.map (f_v q)).reverse ++ Value.ref (q i) :: (st.drop (np + 1)).map (f_v q) := by
              conv => lhs; rw [f_split st np _ hi]
              rw [List.map_append, List.map_cons, ← List.map_reverse, List.reverse_reverse]
              rfl
            have hrun := f_runV (p := p) (e := e) (below := below) (meth := meth) (locs := locs) (cells := 0) (slots := 0) (g := F0 m pc ls (st.map (f_v q))) (As := (st.take np).reverse.map (f_v q)) (rest := (st.drop (np + 1)).map (f_v q)) ⟨hx, hb, hml, hown, hts⟩ hM (cwV np hts hG rfl hrc hrs hd2 ⟨hfr, by omega⟩) hlo
              ⟨f_Blind, va_recv hK hJ.1 hcl (f_w_get hs), (f_preS hK hN hJ hA).2⟩ rfl (by
                rw [List.length_map, List.length_reverse, List.length_take]
                have := (List.getElem?_eq_some_iff.mp hi).1
                omega) hl.1 hst (f_room16 (by rw [f_cats_eq]; exact hcat)) hd ⟨Nat.zero_le _, Nat.zero_le _⟩
            refine f_callW hA hJ hrun (fun H1 locs1 hJ1 => ?_)
            have h9 := hk ls H1 locs1 hl hJ1
            dsimp only at h9
            rw [f_toList_map] at h9
            exact h9
          · cases ho
        · cases ho
      · cases ho
    · cases ho
  · cases ho
theorem ok_invS {mm np idx : Nat} (hd : decode cc pc = .ok (.invokestatic idx, 3)) (hm : f_calS l sh own idx T rm cf np mm) : f_ok l sh cc nL own T rt rm pc (i_invS cf mm np (pc + 3)) := by
  intro p e s m args below meth c Q D k q A hE lo st h ls H locs hl hJ o ho hk
  obtain ⟨hx, hb, hml, hown, hts, hK, hN, hA⟩ := hE
  unfold i_invS at ho
  dsimp only at ho
  split at ho
  · rename_i hcat
    split at ho
    · rename_i z hz
      cases ho
      obtain ⟨y, bytes, maxL, rt0, T0, rmc, hd2, hG, hrc, hrs, hfr, hlo, hcf⟩ := hm
      have hM := hcf _ _ _ hz D k q H.size
      have hst : st.map (f_v q) = ((st.take np).reverse.map (f_v q)).reverse ++ (st.drop np).map (f_v q) := by
        conv => lhs; rw [← List.take_append_drop np st]
        rw [List.map_append, ← List.map_reverse, List.reverse_reverse]
      have hrun := f_runS (p := p) (e := e) (below := below) (meth := meth) (locs := locs) (cells := 0) (slots := 0) (g := F0 m pc ls (st.map (f_v q))) (As := (st.take np).reverse.map (f_v q)) (rest := (st.drop np).map (f_v q)) ⟨hx, hb, hml, hown, hts⟩ hM (cwS np hts hG rfl hrc hrs hd2 ⟨hfr, by omega⟩) hlo
        (f_preS hK hN hJ hA) rfl (by
          rw [List.length_map, List.length_reverse, List.length_take]
          omega) hl.1 hst (f_room16 (by rw [f_cats_eq]; exact hcat.2)) hd ⟨Nat.zero_le _, Nat.zero_le _⟩
      refine f_callW hA hJ hrun (fun H1 locs1 hJ1 => ?_)
      have h9 := hk ls H1 locs1 hl hJ1
      dsimp only at h9
      rw [f_toList_map] at h9
      exact h9
    · cases ho
  · cases ho
end F6
