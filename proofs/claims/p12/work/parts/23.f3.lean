-- fields that are written
def f_fldp (own : String) (idx : Nat) (T : List Cond) (ty : FieldType) (ci j : Nat) : Prop := ∃ (C : String) (TT : u_T) (N : Nat) (ref : String) (ty0 : Nat → FieldType), vwCl[ci]? = some (C, TT, N) ∧ (∀ w ∈ u_ws C TT N, w ∈ T) ∧ j < N ∧ Cond.fieldLink own idx ref (TT j).2.1 (TT j).2.2.1 ∈ T ∧ (∀ (s : State) (args : Array Value), (∀ w ∈ T, w.before args s = true) → ∀ x, s.fieldFound? (TT j).1 (TT j).2.1 (TT j).2.2.1 = some x → s.fieldFound? ref (TT j).2.1 (TT j).2.2.1 = some x) ∧ (∀ k, k < N → parseFieldDescriptor (TT k).2.2.1 = some (ty0 k)) ∧ (∀ a, a < N → ∀ b, b < N → a ≠ b → (TT a).2.1 ≠ (TT b).2.1) ∧ (TT j).2.2.2 = false ∧ parseFieldDescriptor (TT j).2.2.1 = some ty
def i_putI (z : Bool) (sh : List f_X) (fl : Nat → Option Nat) (n : Nat) : f_I := fun s => match s.2.1 with
  | .inl x :: .inr (.inr (some i)) :: r => match sh[i]? with
    | some (.inr (ci, ks)) => match fl ci with
      | some j => if ks[j]? = some 0 ∧ (z = true → x = 0 ∨ x = 1) then some (.inl (n, s.1, r, f_uI s.2.2 i j x)) else none
      | none => none
    | _ => none
  | _ => none
def i_putL (sh : List f_X) (fl : Nat → Option Nat) (n : Nat) : f_I := fun s => match s.2.1 with
  | .inr (.inl x) :: .inr (.inr (some i)) :: r => match sh[i]? with
    | some (.inr (ci, ks)) => match fl ci with
      | some j => if ks[j]? = some 1 then some (.inl (n, s.1, r, f_uL s.2.2 i j x)) else none
      | none => none
    | _ => none
  | _ => none
def i_putR (sh : List f_X) (fl : Nat → Option Nat) (n : Nat) : f_I := fun s => match s.2.1 with
  | .inr (.inr x) :: .inr (.inr (some i)) :: r => match sh[i]? with
    | some (.inr (ci, ks)) => match fl ci with
      | some j => if ks[j]? = some 2 then some (.inl (n, s.1, r, f_uR s.2.2 i j x)) else none
      | none => none
    | _ => none
  | _ => none
def f_zty (z : Bool) : FieldType := if z then .boolean else .int
theorem f_znar {z : Bool} {x : Int32} (h : z = true → x = 0 ∨ x = 1) : narrow (f_zty z) (.int x) = .int x ∧ fits (f_zty z) (.int x) = true := by
  cases z with
  | false => exact ⟨rfl, rfl⟩
  | true =>
    rcases h rfl with rfl | rfl
    · exact ⟨by decide, by decide⟩
    · exact ⟨by decide, by decide⟩
section F3
variable {l : Launch} {sh : List f_X} {cc : ByteArray} {nL : Nat} {own : String} {T : List Cond} {rt : Option FieldType} {rm : Room} {pc : Nat}
theorem ok_putI {z : Bool} {fl : Nat → Option Nat} {idx : Nat} (hd : decode cc pc = .ok (.putfield idx, 3)) (hf : ∀ ci j, fl ci = some j → f_fldp own idx T (f_zty z) ci j) : f_ok l sh cc nL own T rt rm pc (i_putI z sh fl (pc + 3)) := by
  intro p e s m args below meth c Q D k q A hE lo st h ls H locs hl hJ o ho hk
  obtain ⟨hx, hb, hml, hown, hts, hK, hN, hA⟩ := hE
  unfold i_putI at ho
  dsimp only at ho
  split at ho
  · rename_i x i r
    split at ho
    · rename_i ci ks hs
      split at ho
      · rename_i j hj
        split at ho
        · rename_i hc
          cases ho
          obtain ⟨C, TT, N, ref, ty0, hcl, hin, hjN, hlk, hsm, hty, hnm, hfin, hdesc⟩ := hf ci j hj
          have hlen : j < (ks.mapIdx (fun j kd => f_f q h i j kd)).length := by rw [List.length_mapIdx]; exact (List.getElem?_eq_some_iff.mp hc.1).1
          refine va_put hx hb hts hin ty0 hty hnm hown hK hJ.1 hJ.2.1 hJ.2.2 i (f_w_get hs) hcl j hjN (hts _ hlk) (hsm s args hts) hfin hdesc (v := .int x) (f_znar hc.2).1 (f_znar hc.2).2 hlen hd (fun H1 locs1 h1 h2 h3 => ?_)
          have e := f_wO (k := k) (q := q) (h := h) (h' := f_uI h i j x) (v := .int x) hs hc.1 (by simp [f_f, f_uI, upd]) (fun b kd hb => by simp [f_f, f_uI, upd, hb]) (fun a ha => ⟨by simp [f_uI, ha], rfl, rfl⟩)
          exact hk ls H1 locs1 hl ⟨e ▸ h1, e ▸ h2, h3⟩
        · cases ho
      · cases ho
    · cases ho
  · cases ho
theorem ok_putL {fl : Nat → Option Nat} {idx : Nat} (hd : decode cc pc = .ok (.putfield idx, 3)) (hf : ∀ ci j, fl ci = some j → f_fldp own idx T .long ci j) : f_ok l sh cc nL own T rt rm pc (i_putL sh fl (pc + 3)) := by
  intro p e s m args below meth c Q D k q A hE lo st h ls H locs hl hJ o ho hk
  obtain ⟨hx, hb, hml, hown, hts, hK, hN, hA⟩ := hE
  unfold i_putL at ho
  dsimp only at ho
  split at ho
  · rename_i x i r
    split at ho
    · rename_i ci ks hs
      split at ho
      · rename_i j hj
        split at ho
        · rename_i hc
          cases ho
          obtain ⟨C, TT, N, ref, ty0, hcl, hin, hjN, hlk, hsm, hty, hnm, hfin, hdesc⟩ := hf ci j hj
          have hlen : j < (ks.mapIdx (fun j kd => f_f q h i j kd)).length := by rw [List.length_mapIdx]; exact (List.getElem?_eq_some_iff.mp hc).1
          refine va_put hx hb hts hin ty0 hty hnm hown hK hJ.1 hJ.2.1 hJ.2.2 i (f_w_get hs) hcl j hjN (hts _ hlk) (hsm s args hts) hfin hdesc (v := .long x) rfl rfl hlen hd (fun H1 locs1 h1 h2 h3 => ?_)
          have e := f_wO (k := k) (q := q) (h := h) (h' := f_uL h i j x) (v := .long x) hs hc (by simp [f_f, f_uL, vp_updL]) (fun b kd hb => by simp [f_f, f_uL, vp_updL, hb]) (fun a ha => ⟨rfl, by simp [f_uL, ha], rfl⟩)
          exact hk ls H1 locs1 hl ⟨e ▸ h1, e ▸ h2, h3⟩
        · cases ho
      · cases ho
    · cases ho
  · cases ho
theorem f_rfits {C : String} (r : Option Nat) : narrow (.object C) (va_rf r) = va_rf r ∧ fits (.object C) (va_rf r) = true := by
  cases r <;> exact ⟨rfl, rfl⟩
theorem ok_putR {fl : Nat → Option Nat} {idx : Nat} {C0 : String} (hd : decode cc pc = .ok (.putfield idx, 3)) (hf : ∀ ci j, fl ci = some j → f_fldp own idx T (.object C0) ci j) : f_ok l sh cc nL own T rt rm pc (i_putR sh fl (pc + 3)) := by
  intro p e s m args below meth c Q D k q A hE lo st h ls H locs hl hJ o ho hk
  obtain ⟨hx, hb, hml, hown, hts, hK, hN, hA⟩ := hE
  unfold i_putR at ho
  dsimp only at ho
  split at ho
  · rename_i x i r
    split at ho
    · rename_i ci ks hs
      split at ho
      · rename_i j hj
        split at ho
        · rename_i hc
          cases ho
          obtain ⟨C, TT, N, ref, ty0, hcl, hin, hjN, hlk, hsm, hty, hnm, hfin, hdesc⟩ := hf ci j hj
          have hlen : j < (ks.mapIdx (fun j kd => f_f q h i j kd)).length := by rw [List.length_mapIdx]; exact (List.getElem?_eq_some_iff.mp hc).1
          refine va_put hx hb hts hin ty0 hty hnm hown hK hJ.1 hJ.2.1 hJ.2.2 i (f_w_get hs) hcl j hjN (hts _ hlk) (hsm s args hts) hfin hdesc (v := va_rf (x.map q)) (f_rfits _).1 (f_rfits _).2 hlen hd (fun H1 locs1 h1 h2 h3 => ?_)
          have e := f_wO (k := k) (q := q) (h := h) (h' := f_uR h i j x) (v := va_rf (x.map q)) hs hc (by simp [f_f, f_uR, va_up]) (fun b kd hb => by simp [f_f, f_uR, va_up, hb]) (fun a ha => ⟨rfl, rfl, by simp [f_uR, ha]⟩)
          exact hk ls H1 locs1 hl ⟨e ▸ h1, e ▸ h2, h3⟩
        · cases ho
      · cases ho
    · cases ho
  · cases ho
end F3
-- returns
def i_ireturn (z : Bool) : f_I := fun s => match s.2.1 with
  | [.inl x] => if z = true → x = 0 ∨ x = 1 then some (.inr (some (.inl x), s.2.2)) else none
  | _ => none
def i_lreturn : f_I := fun s => match s.2.1 with
  | [.inr (.inl x)] => some (.inr (some (.inr (.inl x)), s.2.2))
  | _ => none
def i_areturn : f_I := fun s => match s.2.1 with
  | [.inr (.inr x)] => some (.inr (some (.inr (.inr x)), s.2.2))
  | _ => none
def i_return : f_I := fun s => match s.2.1 with
  | [] => some (.inr (none, s.2.2))
  | _ => none
section F4
variable {l : Launch} {sh : List f_X} {cc : ByteArray} {nL : Nat} {own : String} {T : List Cond} {rm : Room} {pc : Nat}
theorem ok_ireturn {z : Bool} (hd : decode cc pc = .ok (.ireturn, 1)) : f_ok l sh cc nL own T (some (f_zty z)) rm pc (i_ireturn z) := by
  intro p e s m args below meth c Q D k q A hE lo st h ls H locs hl hJ o ho hk
  unfold i_ireturn at ho
  dsimp only at ho
  split at ho
  · split at ho
    · rename_i hc
      cases ho
      exact hk ls H locs hJ ⟨hd, _, rfl, (f_znar hc).1⟩
    · cases ho
  · cases ho
theorem ok_lreturn (hd : decode cc pc = .ok (.lreturn, 1)) : f_ok l sh cc nL own T (some .long) rm pc i_lreturn := by
  intro p e s m args below meth c Q D k q A hE lo st h ls H locs hl hJ o ho hk
  unfold i_lreturn at ho
  dsimp only at ho
  split at ho
  · cases ho
    exact hk ls H locs hJ ⟨hd, rfl⟩
  · cases ho
theorem ok_areturn {C : String} (hd : decode cc pc = .ok (.areturn, 1)) : f_ok l sh cc nL own T (some (.object C)) rm pc i_areturn := by
  intro p e s m args below meth c Q D k q A hE lo st h ls H locs hl hJ o ho hk
  unfold i_areturn at ho
  dsimp only at ho
  split at ho
  · cases ho
    exact hk ls H locs hJ ⟨hd, _, rfl⟩
  · cases ho
theorem ok_return (hd : decode cc pc = .ok (.return_, 1)) : f_ok l sh cc nL own T none rm pc i_return := by
  intro p e s m args below meth c Q D k q A hE lo st h ls H locs hl hJ o ho hk
  unfold i_return at ho
  dsimp only at ho
  split at ho
  · cases ho
    exact hk ls H locs hJ ⟨hd, rfl⟩
  · cases ho
end F4
-- a method's run
def f_run (code : Nat → Option f_I) : Nat → Nat × f_S → Option f_R
  | 0, _ => none
  | n + 1, s => match code s.1 with
    | none => none
    | some f => match f s.2 with
      | none => none
      | some (.inl s') => f_run code n s'
      | some (.inr r) => some r
theorem f_run_ok {l : Launch} {sh : List f_X} {cc : ByteArray} {nL : Nat} {own : String} {T : List Cond} {rt : Option FieldType} {rm : Room} {code : Nat → Option f_I} (hc : ∀ pc f, code pc = some f → f_ok l sh cc nL own T rt rm pc f)
    {p : Program} {e : Env} {s : State} {m : MethodId} {args : Array Value} {below : List Frame} {meth : Method} {c : Code} {Q : State → Prop} {D : va_G} {k : Nat → ClassId} {q : Nat → Nat} {A : Nat → Prop} (hE : f_E p s m args c cc nL own T D k q A) {r : Option f_V} {h' : f_H}
    (hR : ∀ (pc : Nat) (ls : Array Slot) (H : Heap) (locs : List Loc), f_J D sh k q A s h' H locs → f_ret cc rt pc r → W p l e rm s m args below meth c H locs 0 0 Q (F0 m pc ls (r.toList.map (f_v q)))) :
    ∀ (n pc : Nat) (lo : List (Option f_V)) (st : List f_V) (h : f_H), f_run code n (pc, lo, st, h) = some (r, h') → ∀ (ls : Array Slot) (H : Heap) (locs : List Loc), f_L q ls nL lo → f_J D sh k q A s h H locs → W p l e rm s m args below meth c H locs 0 0 Q (F0 m pc ls (st.map (f_v q))) := by
  intro n
  induction n with
  | zero => intro pc lo st h hr; cases hr
  | succ n ih =>
    intro pc lo st h hr ls H locs hl hJ
    unfold f_run at hr
    dsimp only at hr
    split at hr
    · cases hr
    · rename_i f hf
      split at hr
      · cases hr
      · rename_i s' hs'
        obtain ⟨pc', lo', st', h1⟩ := s'
        exact hc pc f hf p e s m args below meth c Q D k q A hE lo st h ls H locs hl hJ _ hs' (fun ls1 H1 locs1 hl1 hJ1 => ih pc' lo' st' h1 hr ls1 H1 locs1 hl1 hJ1)
      · rename_i z hz
        cases hr
        exact hc pc f hf p e s m args below meth c Q D k q A hE lo st h ls H locs hl hJ _ hz (fun ls1 H1 locs1 hJ1 hret => hR pc ls1 H1 locs1 hJ1 hret)
-- a method's contract
def f_Q (D : va_G) (ws : va_W) (sz : Nat) (w1 : va_W) (v : Option Value) : Array Value → State → Outcome → State → Prop := fun _ st oc t => (oc = .returned v ∧ va_P D vwCl w1 t.heap ∧ va_D (va_A ws sz) w1) ∧ va_F (va_A ws sz) st t
def f_M (l : Launch) (sh : List f_X) (T : List Cond) (y : MethodName) (cc : ByteArray) (maxL : Nat) (rt : Option FieldType) (rm : Room) (as : List f_V) (h : f_H) (r : Option f_V) (h' : f_H) : Prop := ∀ (D : va_G) (k : Nat → ClassId) (q : Nat → Nat) (sz : Nat), Met l y (Cond.code y cc maxL rt :: T) rm (va_Pc (as.map (f_v q)) (f_Pre D k q (f_w sh k q h) sz)) (f_Q D (f_w sh k q h) sz (f_w sh k q h') (r.map (f_v q))) 0 0 (va_A (f_w sh k q h) sz)
def f_args (as : List f_V) : List (Option f_V) := as.flatMap (fun v => if f_cat v = 2 then [some v, none] else [some v])
def f_lo (as : List f_V) (nL : Nat) : List (Option f_V) := f_args as ++ List.replicate (nL - (f_args as).length) none
theorem f_args_mem {q : Nat → Nat} : ∀ (as : List f_V) (b i : Nat) (x : f_V), (f_args as)[i]? = some (some x) → (b + i, f_v q x) ∈ lv_args b (as.map (f_v q))
  | [], b, i, x, h => by simp [f_args] at h
  | v :: as, b, i, x, h => by
    have ih := f_args_mem (q := q) as
    have e : f_args (v :: as) = (if f_cat v = 2 then [some v, none] else [some v]) ++ f_args as := by simp [f_args]
    rw [e] at h
    show _ ∈ (b, f_v q v) :: lv_args (if (f_v q v).category = 2 then b + 2 else b + 1) (as.map (f_v q))
    rw [f_cat_eq]
    by_cases hc : f_cat v = 2
    · rw [if_pos hc] at h ⊢
      match i, h with
      | 0, h => cases h; exact List.mem_cons_self
      | 1, h => cases h
      | i + 2, h =>
        have := ih (b + 2) i x (by simpa using h)
        exact List.mem_cons_of_mem _ (by rw [show b + (i + 2) = b + 2 + i from by omega]; exact this)
    · rw [if_neg hc] at h ⊢
      match i, h with
      | 0, h => cases h; exact List.mem_cons_self
      | i + 1, h =>
        have := ih (b + 1) i x (by simpa using h)
        exact List.mem_cons_of_mem _ (by rw [show b + (i + 1) = b + 1 + i from by omega]; exact this)
theorem f_lo_ok {q : Nat → Nat} {ls : Array Slot} {nL : Nat} {as : List f_V} (h : lv_has ls nL (lv_args 0 (as.map (f_v q)))) : f_L q ls nL (f_lo as nL) := by
  refine f_L.of h (fun i x hx => ?_)
  unfold f_lo at hx
  rw [List.getElem?_append] at hx
  split at hx
  · have := f_args_mem (q := q) as 0 i x hx
    rw [Nat.zero_add] at this
    exact this
  · rw [List.getElem?_replicate] at hx
    split at hx <;> cases hx
theorem f_sl_len (q : Nat → Nat) : ∀ as : List f_V, (lg_sl (as.map (f_v q))).length = (f_args as).length
  | [] => rfl
  | v :: as => by
    have ih := f_sl_len q as
    unfold lg_sl f_args at *
    simp only [List.map_cons, List.flatMap_cons, List.length_append, ih, f_cat_eq]
    by_cases hc : f_cat v = 2 <;> simp [hc]
theorem f_met {l : Launch} {sh : List f_X} {cc : ByteArray} {nL : Nat} {T : List Cond} {rt : Option FieldType} {rm : Room} {code : Nat → Option f_I} {y : MethodName} (hy : plainName y.cls = true) (hc : ∀ pc f, code pc = some f → f_ok l sh cc nL y.cls (Cond.code y cc nL rt :: T) rt rm pc f)
    {as : List f_V} {n : Nat} {h h' : f_H} {r : Option f_V} (hlen : (f_args as).length ≤ nL) (hrun : f_run code n (0, f_lo as nL, [], h) = some (r, h')) : f_M l sh T y cc nL rt rm as h r h' := by
  intro D k q sz
  refine Met.ofW (cc := cc) (maxL := nL) (ret := rt) hy rfl ?_
  intro p e s m args below meth c s₁ B hml hv
  obtain ⟨rfl, hsz, hP, hK, hN, hD0⟩ := hv
  have hx := B.exec
  have hb := B.bytes
  have hr := B.returns
  have hts := atoms_spec (ws := Cond.code y cc nL rt :: T) B.pre
  have hown : s.vm.findClass y.cls = some m.cls := findClass_of_methodNamed B.named
  have hlocks := B.notSynchronized
  subst hsz
  have hD := hD0.self (sz := s.heap.size)
  have hl := lv_entry (as.map (f_v q)) (n := nL) (by rw [f_sl_len]; exact hlen)
  rw [lg_entry_eq]
  refine f_run_ok hc (q := q) (A := va_A (f_w sh k q h) s.heap.size) ⟨hx, hb, hml, hown, hts, hK, hN, fun q h => Or.inr h⟩ (r := r) (h' := h') (fun pc ls H locs hJ hd => ?_) n 0 _ [] h hrun _ _ _ (f_lo_ok hl) ⟨hP, hD, va_S.rf⟩
  have hq : ∀ t : State, t.heap = H → s.WarmedH t.vm → f_Q D (f_w sh k q h) s.heap.size (f_w sh k q h') (r.map (f_v q)) (as.map (f_v q)).toArray s (.returned (r.map (f_v q))) t := fun t ht hW => ⟨⟨rfl, by rw [ht]; exact hJ.1, hJ.2.1⟩, hJ.2.2.F ht⟩
  rcases r with _ | x | x | x
  · exact W.vret hx hb (hr.trans hd.2) hq hJ.2.2.2.2 hd.1 hlocks
  · obtain ⟨hd1, t, ht, hn⟩ := hd
    exact W.zret hx hb (hr.trans ht) hn hq hJ.2.2.2.2 hd1 hlocks
  · exact W.lret hx hb (hr.trans hd.2) hq hJ.2.2.2.2 hd.1 hlocks
  · obtain ⟨hd1, C, hC⟩ := hd
    refine W.aret hx hb (hr.trans hC) (Or.inl ⟨C, rfl⟩) (v := va_rf (x.map q)) ?_ hq hJ.2.2.2.2 hd1 hlocks
    cases x with
    | none => exact Or.inl rfl
    | some a => exact Or.inr ⟨_, rfl⟩
