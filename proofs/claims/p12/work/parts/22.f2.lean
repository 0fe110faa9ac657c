-- what holds on a method's way
def f_E (p : Program) (s : State) (m : MethodId) (args : Array Value) (c : Code) (cc : ByteArray) (nL : Nat) (own : String) (T : List Cond) (D : va_G) (k : Nat → ClassId) (q : Nat → Nat) (A : Nat → Prop) : Prop := p.tables.exec = Jvm.exec ∧ c.code = cc ∧ c.maxLocals = nL ∧ s.vm.findClass own = some m.cls ∧ (∀ w ∈ T, w.before args s = true) ∧ va_K D vwCl (pT k) s ∧ fN q A s s.heap ∧ ∀ q : Nat, s.heap.size ≤ q → A q
def f_J (D : va_G) (sh : List f_X) (k : Nat → ClassId) (q : Nat → Nat) (A : Nat → Prop) (s : State) (h : f_H) (H : Heap) (locs : List Loc) : Prop := va_P D vwCl (f_w sh k q h) H ∧ va_D A (f_w sh k q h) ∧ va_S A s.heap H locs
def f_ret (cc : ByteArray) (rt : Option FieldType) (pc : Nat) (r : Option f_V) : Prop := match r with
  | none => decode cc pc = .ok (.return_, 1) ∧ rt = none
  | some (.inl v) => decode cc pc = .ok (.ireturn, 1) ∧ ∃ t, rt = some t ∧ narrow t (.int v) = .int v
  | some (.inr (.inl _)) => decode cc pc = .ok (.lreturn, 1) ∧ rt = some .long
  | some (.inr (.inr _)) => decode cc pc = .ok (.areturn, 1) ∧ ∃ C, rt = some (.object C)
-- what is owed behind an instruction
def f_K (p : Program) (l : Launch) (e : Env) (rm : Room) (s : State) (m : MethodId) (args : Array Value) (below : List Frame) (meth : Method) (c : Code) (Q : State → Prop) (D : va_G) (k : Nat → ClassId) (q : Nat → Nat) (A : Nat → Prop) (sh : List f_X) (cc : ByteArray) (nL : Nat) (rt : Option FieldType) (pc : Nat) (o : f_O) : Prop := match o with
  | .inl z => ∀ (ls : Array Slot) (H : Heap) (locs : List Loc), f_L q ls nL z.2.1 → f_J D sh k q A s z.2.2.2 H locs → W p l e rm s m args below meth c H locs 0 0 Q (F0 m z.1 ls (z.2.2.1.map (f_v q)))
  | .inr z => ∀ (ls : Array Slot) (H : Heap) (locs : List Loc), f_J D sh k q A s z.2 H locs → f_ret cc rt pc z.1 → W p l e rm s m args below meth c H locs 0 0 Q (F0 m pc ls (z.1.toList.map (f_v q)))
def f_ok (l : Launch) (sh : List f_X) (cc : ByteArray) (nL : Nat) (own : String) (T : List Cond) (rt : Option FieldType) (rm : Room) (pc : Nat) (f : f_I) : Prop :=
  ∀ (p : Program) (e : Env) (s : State) (m : MethodId) (args : Array Value) (below : List Frame) (meth : Method) (c : Code) (Q : State → Prop) (D : va_G) (k : Nat → ClassId) (q : Nat → Nat) (A : Nat → Prop), f_E p s m args c cc nL own T D k q A →
    ∀ (lo : List (Option f_V)) (st : List f_V) (h : f_H) (ls : Array Slot) (H : Heap) (locs : List Loc), f_L q ls nL lo → f_J D sh k q A s h H locs → ∀ o : f_O, f (lo, st, h) = some o → f_K p l e rm s m args below meth c Q D k q A sh cc nL rt pc o → W p l e rm s m args below meth c H locs 0 0 Q (F0 m pc ls (st.map (f_v q)))
-- a field by its link: the class at ci of vwCl has it at place j, the tables say so
def f_fld (own : String) (idx : Nat) (T : List Cond) (ci j : Nat) : Prop := ∃ (C : String) (TT : u_T) (N : Nat) (ref : String), vwCl[ci]? = some (C, TT, N) ∧ (∀ w ∈ u_ws C TT N, w ∈ T) ∧ j < N ∧ Cond.fieldLink own idx ref (TT j).2.1 (TT j).2.2.1 ∈ T ∧ (∀ (s : State) (args : Array Value), (∀ w ∈ T, w.before args s = true) → ∀ x, s.fieldFound? (TT j).1 (TT j).2.1 (TT j).2.2.1 = some x → s.fieldFound? ref (TT j).2.1 (TT j).2.2.1 = some x) ∧ True
theorem f_fget {q : Nat → Nat} {h : f_H} {i j kd : Nat} {ks : List Nat} {v : Value} (hj : ks[j]? = some kd) (hv : f_f q h i j kd = v) : (ks.mapIdx (fun j kd => f_f q h i j kd))[j]? = some v := by
  rw [List.getElem?_mapIdx, hj, ← hv]; rfl
section F2
variable {l : Launch} {sh : List f_X} {cc : ByteArray} {nL : Nat} {own : String} {T : List Cond} {rt : Option FieldType} {rm : Room} {pc : Nat}
def i_const (v : f_V) (n : Nat) : f_I := fun s => some (.inl (n, s.1, v :: s.2.1, s.2.2))
theorem ok_iconst {n : Int} {v : Int32} (hd : decode cc pc = .ok (.iconst n, 1)) (hv : Int32.ofInt n = v) : f_ok l sh cc nL own T rt rm pc (i_const (.inl v) (pc + 1)) := by
  intro p e s m args below meth c Q D k q A hE lo st h ls H locs hl hJ o ho hk
  obtain ⟨hx, hb, hml, hown, hts, hK, hN, hA⟩ := hE
  cases ho
  exact lv_iconst hx hb hd hv (hk ls H locs hl hJ)
theorem ok_bipush {n : Int} {v : Int32} (hd : decode cc pc = .ok (.bipush n, 2)) (hv : (Int8.ofInt n).toInt32 = v) : f_ok l sh cc nL own T rt rm pc (i_const (.inl v) (pc + 2)) := by
  intro p e s m args below meth c Q D k q A hE lo st h ls H locs hl hJ o ho hk
  obtain ⟨hx, hb, hml, hown, hts, hK, hN, hA⟩ := hE
  cases ho
  exact lv_bipush hx hb hd hv (hk ls H locs hl hJ)
theorem ok_sipush {n : Int} {v : Int32} (hd : decode cc pc = .ok (.sipush n, 3)) (hv : (Int16.ofInt n).toInt32 = v) : f_ok l sh cc nL own T rt rm pc (i_const (.inl v) (pc + 3)) := by
  intro p e s m args below meth c Q D k q A hE lo st h ls H locs hl hJ o ho hk
  obtain ⟨hx, hb, hml, hown, hts, hK, hN, hA⟩ := hE
  cases ho
  exact lv_sipush hx hb hd hv (hk ls H locs hl hJ)
theorem ok_lconst {n : Fin 2} {v : Int64} (hd : decode cc pc = .ok (.lconst n, 1)) (hv : Int64.ofNat (n : Nat) = v) : f_ok l sh cc nL own T rt rm pc (i_const (.inr (.inl v)) (pc + 1)) := by
  intro p e s m args below meth c Q D k q A hE lo st h ls H locs hl hJ o ho hk
  obtain ⟨hx, hb, hml, hown, hts, hK, hN, hA⟩ := hE
  cases ho
  exact lv_lconst hx hb hd hv (hk ls H locs hl hJ)
theorem ok_ldc {i : Nat} {v : Int32} (hd : decode cc pc = .ok (.ldc i, 2)) (hw : Cond.constant own i v ∈ T) : f_ok l sh cc nL own T rt rm pc (i_const (.inl v) (pc + 2)) := by
  intro p e s m args below meth c Q D k q A hE lo st h ls H locs hl hJ o ho hk
  obtain ⟨hx, hb, hml, hown, hts, hK, hN, hA⟩ := hE
  cases ho
  exact lv_ldc hx hb hown (hts _ hw) hd (hk ls H locs hl hJ)
theorem ok_ldcw {i : Nat} {v : Int32} (hd : decode cc pc = .ok (.ldc_w i, 3)) (hw : Cond.constant own i v ∈ T) : f_ok l sh cc nL own T rt rm pc (i_const (.inl v) (pc + 3)) := by
  intro p e s m args below meth c Q D k q A hE lo st h ls H locs hl hJ o ho hk
  obtain ⟨hx, hb, hml, hown, hts, hK, hN, hA⟩ := hE
  cases ho
  exact lv_ldcw hx hb hown (hts _ hw) hd (hk ls H locs hl hJ)
theorem ok_ldc2 {i : Nat} {v : Int64} (hd : decode cc pc = .ok (.ldc2_w i, 3)) (hw : Cond.constantLong own i v ∈ T) : f_ok l sh cc nL own T rt rm pc (i_const (.inr (.inl v)) (pc + 3)) := by
  intro p e s m args below meth c Q D k q A hE lo st h ls H locs hl hJ o ho hk
  obtain ⟨hx, hb, hml, hown, hts, hK, hN, hA⟩ := hE
  cases ho
  exact lv_ldc2 hx hb hown (hts _ hw) hd (hk ls H locs hl hJ)
theorem ok_null (hd : decode cc pc = .ok (.aconst_null, 1)) : f_ok l sh cc nL own T rt rm pc (i_const (.inr (.inr none)) (pc + 1)) := by
  intro p e s m args below meth c Q D k q A hE lo st h ls H locs hl hJ o ho hk
  obtain ⟨hx, hb, hml, hown, hts, hK, hN, hA⟩ := hE
  cases ho
  exact lv_null hx hb hd (hk ls H locs hl hJ)
def i_iload (i n : Nat) : f_I := fun s => match s.1[i]? with
  | some (some (.inl x)) => some (.inl (n, s.1, .inl x :: s.2.1, s.2.2))
  | _ => none
theorem ok_iload_n {k0 : Fin 4} {i : Nat} (hd : decode cc pc = .ok (.iload_n k0, 1)) (hi : (k0 : Nat) = i) : f_ok l sh cc nL own T rt rm pc (i_iload i (pc + 1)) := by
  intro p e s m args below meth c Q D k q A hE lo st h ls H locs hl hJ o ho hk
  obtain ⟨hx, hb, hml, hown, hts, hK, hN, hA⟩ := hE
  unfold i_iload at ho
  dsimp only at ho
  split at ho
  · rename_i x he
    cases ho
    have hv := hl.2.2 i _ he
    exact lv_iload_n hx hb hd hi hv (hk ls H locs hl hJ)
  · cases ho
theorem ok_iload {i : Nat} (hd : decode cc pc = .ok (.iload i, 2)) : f_ok l sh cc nL own T rt rm pc (i_iload i (pc + 2)) := by
  intro p e s m args below meth c Q D k q A hE lo st h ls H locs hl hJ o ho hk
  obtain ⟨hx, hb, hml, hown, hts, hK, hN, hA⟩ := hE
  unfold i_iload at ho
  dsimp only at ho
  split at ho
  · rename_i x he
    cases ho
    have hv := hl.2.2 i _ he
    exact lv_iload hx hb hd hv (hk ls H locs hl hJ)
  · cases ho
def i_lload (i n : Nat) : f_I := fun s => match s.1[i]? with
  | some (some (.inr (.inl x))) => some (.inl (n, s.1, .inr (.inl x) :: s.2.1, s.2.2))
  | _ => none
theorem ok_lload_n {k0 : Fin 4} {i : Nat} (hd : decode cc pc = .ok (.lload_n k0, 1)) (hi : (k0 : Nat) = i) : f_ok l sh cc nL own T rt rm pc (i_lload i (pc + 1)) := by
  intro p e s m args below meth c Q D k q A hE lo st h ls H locs hl hJ o ho hk
  obtain ⟨hx, hb, hml, hown, hts, hK, hN, hA⟩ := hE
  unfold i_lload at ho
  dsimp only at ho
  split at ho
  · rename_i x he
    cases ho
    have hv := hl.2.2 i _ he
    exact lv_lload_n hx hb hd hi hv (hk ls H locs hl hJ)
  · cases ho
theorem ok_lload {i : Nat} (hd : decode cc pc = .ok (.lload i, 2)) : f_ok l sh cc nL own T rt rm pc (i_lload i (pc + 2)) := by
  intro p e s m args below meth c Q D k q A hE lo st h ls H locs hl hJ o ho hk
  obtain ⟨hx, hb, hml, hown, hts, hK, hN, hA⟩ := hE
  unfold i_lload at ho
  dsimp only at ho
  split at ho
  · rename_i x he
    cases ho
    have hv := hl.2.2 i _ he
    exact lv_lload hx hb hd hv (hk ls H locs hl hJ)
  · cases ho
def i_aload (i n : Nat) : f_I := fun s => match s.1[i]? with
  | some (some (.inr (.inr x))) => some (.inl (n, s.1, .inr (.inr x) :: s.2.1, s.2.2))
  | _ => none
theorem ok_aload_n {k0 : Fin 4} {i : Nat} (hd : decode cc pc = .ok (.aload_n k0, 1)) (hi : (k0 : Nat) = i) : f_ok l sh cc nL own T rt rm pc (i_aload i (pc + 1)) := by
  intro p e s m args below meth c Q D k q A hE lo st h ls H locs hl hJ o ho hk
  obtain ⟨hx, hb, hml, hown, hts, hK, hN, hA⟩ := hE
  unfold i_aload at ho
  dsimp only at ho
  split at ho
  · rename_i x he
    cases ho
    have hv := hl.2.2 i _ he
    cases x with
    | none => exact lv_aload_nN hx hb hd hi hv (hk ls H locs hl hJ)
    | some x => exact lv_aload_n hx hb hd hi hv (hk ls H locs hl hJ)
  · cases ho
theorem ok_aload {i : Nat} (hd : decode cc pc = .ok (.aload i, 2)) : f_ok l sh cc nL own T rt rm pc (i_aload i (pc + 2)) := by
  intro p e s m args below meth c Q D k q A hE lo st h ls H locs hl hJ o ho hk
  obtain ⟨hx, hb, hml, hown, hts, hK, hN, hA⟩ := hE
  unfold i_aload at ho
  dsimp only at ho
  split at ho
  · rename_i x he
    cases ho
    have hv := hl.2.2 i _ he
    cases x with
    | none => exact lv_aloadN hx hb hd hv (hk ls H locs hl hJ)
    | some x => exact lv_aload hx hb hd hv (hk ls H locs hl hJ)
  · cases ho
def i_istore (i n : Nat) : f_I := fun s => match s.2.1 with
  | .inl x :: r => some (.inl (n, f_s1 s.1 i (.inl x), r, s.2.2))
  | _ => none
theorem ok_istore_n {k0 : Fin 4} {i : Nat} (hd : decode cc pc = .ok (.istore_n k0, 1)) (hi : (k0 : Nat) = i) (hn : i < nL) : f_ok l sh cc nL own T rt rm pc (i_istore i (pc + 1)) := by
  intro p e s m args below meth c Q D k q A hE lo st h ls H locs hl hJ o ho hk
  obtain ⟨hx, hb, hml, hown, hts, hK, hN, hA⟩ := hE
  unfold i_istore at ho
  dsimp only at ho
  split at ho
  · rename_i x r
    cases ho
    exact lv_istore_n hx hb hd hi hl.has hn rfl (fun ls1 h1 => hk ls1 H locs (f_L.s1 h1) hJ)
  · cases ho
theorem ok_istore {i : Nat} (hd : decode cc pc = .ok (.istore i, 2)) (hn : i < nL) : f_ok l sh cc nL own T rt rm pc (i_istore i (pc + 2)) := by
  intro p e s m args below meth c Q D k q A hE lo st h ls H locs hl hJ o ho hk
  obtain ⟨hx, hb, hml, hown, hts, hK, hN, hA⟩ := hE
  unfold i_istore at ho
  dsimp only at ho
  split at ho
  · rename_i x r
    cases ho
    exact lv_istore hx hb hd hl.has hn rfl (fun ls1 h1 => hk ls1 H locs (f_L.s1 h1) hJ)
  · cases ho
def i_lstore (i n : Nat) : f_I := fun s => match s.2.1 with
  | .inr (.inl x) :: r => some (.inl (n, f_s2 s.1 i (.inr (.inl x)), r, s.2.2))
  | _ => none
theorem ok_lstore_n {k0 : Fin 4} {i : Nat} (hd : decode cc pc = .ok (.lstore_n k0, 1)) (hi : (k0 : Nat) = i) (hn : i + 1 < nL) : f_ok l sh cc nL own T rt rm pc (i_lstore i (pc + 1)) := by
  intro p e s m args below meth c Q D k q A hE lo st h ls H locs hl hJ o ho hk
  obtain ⟨hx, hb, hml, hown, hts, hK, hN, hA⟩ := hE
  unfold i_lstore at ho
  dsimp only at ho
  split at ho
  · rename_i x r
    cases ho
    exact lv_lstore_n hx hb hd hi hl.has hn rfl (fun ls1 h1 => hk ls1 H locs (f_L.s2 h1) hJ)
  · cases ho
theorem ok_lstore {i : Nat} (hd : decode cc pc = .ok (.lstore i, 2)) (hn : i + 1 < nL) : f_ok l sh cc nL own T rt rm pc (i_lstore i (pc + 2)) := by
  intro p e s m args below meth c Q D k q A hE lo st h ls H locs hl hJ o ho hk
  obtain ⟨hx, hb, hml, hown, hts, hK, hN, hA⟩ := hE
  unfold i_lstore at ho
  dsimp only at ho
  split at ho
  · rename_i x r
    cases ho
    exact lv_lstore hx hb hd hl.has hn rfl (fun ls1 h1 => hk ls1 H locs (f_L.s2 h1) hJ)
  · cases ho
def i_astore (i n : Nat) : f_I := fun s => match s.2.1 with
  | .inr (.inr x) :: r => some (.inl (n, f_s1 s.1 i (.inr (.inr x)), r, s.2.2))
  | _ => none
theorem ok_astore_n {k0 : Fin 4} {i : Nat} (hd : decode cc pc = .ok (.astore_n k0, 1)) (hi : (k0 : Nat) = i) (hn : i < nL) : f_ok l sh cc nL own T rt rm pc (i_astore i (pc + 1)) := by
  intro p e s m args below meth c Q D k q A hE lo st h ls H locs hl hJ o ho hk
  obtain ⟨hx, hb, hml, hown, hts, hK, hN, hA⟩ := hE
  unfold i_astore at ho
  dsimp only at ho
  split at ho
  · rename_i x r
    cases ho
    cases x with
    | none => exact lv_astore_nN hx hb hd hi hl.has hn rfl (fun ls1 h1 => hk ls1 H locs (f_L.s1 h1) hJ)
    | some x => exact lv_astore_n hx hb hd hi hl.has hn rfl (fun ls1 h1 => hk ls1 H locs (f_L.s1 h1) hJ)
  · cases ho
theorem ok_astore {i : Nat} (hd : decode cc pc = .ok (.astore i, 2)) (hn : i < nL) : f_ok l sh cc nL own T rt rm pc (i_astore i (pc + 2)) := by
  intro p e s m args below meth c Q D k q A hE lo st h ls H locs hl hJ o ho hk
  obtain ⟨hx, hb, hml, hown, hts, hK, hN, hA⟩ := hE
  unfold i_astore at ho
  dsimp only at ho
  split at ho
  · rename_i x r
    cases ho
    cases x with
    | none => exact lv_astoreN hx hb hd hl.has hn rfl (fun ls1 h1 => hk ls1 H locs (f_L.s1 h1) hJ)
    | some x => exact lv_astore hx hb hd hl.has hn rfl (fun ls1 h1 => hk ls1 H locs (f_L.s1 h1) hJ)
  · cases ho
def i_iinc (i : Nat) (d : Int32) (n : Nat) : f_I := fun s => match s.1[i]? with
  | some (some (.inl x)) => some (.inl (n, f_s1 s.1 i (.inl (x + d)), s.2.1, s.2.2))
  | _ => none
theorem ok_iinc {i : Nat} {n : Int} {d : Int32} (hd : decode cc pc = .ok (.iinc i n, 3)) (hv : Int32.ofInt n = d) (hn : i < nL) : f_ok l sh cc nL own T rt rm pc (i_iinc i d (pc + 3)) := by
  intro p e s m args below meth c Q D k q A hE lo st h ls H locs hl hJ o ho hk
  obtain ⟨hx, hb, hml, hown, hts, hK, hN, hA⟩ := hE
  unfold i_iinc at ho
  dsimp only at ho
  split at ho
  · rename_i x he
    cases ho
    obtain ⟨j, hj⟩ := List.getElem?_of_mem (f_lv_mem.mpr ⟨_, he, rfl⟩ : (i, f_v q (.inl x)) ∈ f_lv q lo)
    exact lv_iinc hx hb hd hl.has hj (by rw [hv]) hn rfl (fun ls1 h1 => hk ls1 H locs (f_L.s1 h1) hJ)
  · cases ho
def i_ii (op : Int32 → Int32 → Int32) (n : Nat) : f_I := fun s => match s.2.1 with
  | .inl y :: .inl x :: r => some (.inl (n, s.1, .inl (op x y) :: r, s.2.2))
  | _ => none
theorem ok_iadd (hd : decode cc pc = .ok (.iadd, 1)) : f_ok l sh cc nL own T rt rm pc (i_ii (fun x y => x + y) (pc + 1)) := by
  intro p e s m args below meth c Q D k q A hE lo st h ls H locs hl hJ o ho hk
  obtain ⟨hx, hb, hml, hown, hts, hK, hN, hA⟩ := hE
  unfold i_ii at ho
  dsimp only at ho
  split at ho
  · rename_i y x r
    cases ho
    exact lv_iadd hx hb hd (hk ls H locs hl hJ)
  · cases ho
theorem ok_isub (hd : decode cc pc = .ok (.isub, 1)) : f_ok l sh cc nL own T rt rm pc (i_ii (fun x y => x - y) (pc + 1)) := by
  intro p e s m args below meth c Q D k q A hE lo st h ls H locs hl hJ o ho hk
  obtain ⟨hx, hb, hml, hown, hts, hK, hN, hA⟩ := hE
  unfold i_ii at ho
  dsimp only at ho
  split at ho
  · rename_i y x r
    cases ho
    exact lv_isub hx hb hd (hk ls H locs hl hJ)
  · cases ho
theorem ok_imul (hd : decode cc pc = .ok (.imul, 1)) : f_ok l sh cc nL own T rt rm pc (i_ii (fun x y => x * y) (pc + 1)) := by
  intro p e s m args below meth c Q D k q A hE lo st h ls H locs hl hJ o ho hk
  obtain ⟨hx, hb, hml, hown, hts, hK, hN, hA⟩ := hE
  unfold i_ii at ho
  dsimp only at ho
  split at ho
  · rename_i y x r
    cases ho
    exact lv_imul hx hb hd (hk ls H locs hl hJ)
  · cases ho
theorem ok_iand (hd : decode cc pc = .ok (.iand, 1)) : f_ok l sh cc nL own T rt rm pc (i_ii (fun x y => x &&& y) (pc + 1)) := by
  intro p e s m args below meth c Q D k q A hE lo st h ls H locs hl hJ o ho hk
  obtain ⟨hx, hb, hml, hown, hts, hK, hN, hA⟩ := hE
  unfold i_ii at ho
  dsimp only at ho
  split at ho
  · rename_i y x r
    cases ho
    exact lv_iand hx hb hd (hk ls H locs hl hJ)
  · cases ho
theorem ok_ior (hd : decode cc pc = .ok (.ior, 1)) : f_ok l sh cc nL own T rt rm pc (i_ii (fun x y => x ||| y) (pc + 1)) := by
  intro p e s m args below meth c Q D k q A hE lo st h ls H locs hl hJ o ho hk
  obtain ⟨hx, hb, hml, hown, hts, hK, hN, hA⟩ := hE
  unfold i_ii at ho
  dsimp only at ho
  split at ho
  · rename_i y x r
    cases ho
    exact lv_ior hx hb hd (hk ls H locs hl hJ)
  · cases ho
theorem ok_ixor (hd : decode cc pc = .ok (.ixor, 1)) : f_ok l sh cc nL own T rt rm pc (i_ii (fun x y => x ^^^ y) (pc + 1)) := by
  intro p e s m args below meth c Q D k q A hE lo st h ls H locs hl hJ o ho hk
  obtain ⟨hx, hb, hml, hown, hts, hK, hN, hA⟩ := hE
  unfold i_ii at ho
  dsimp only at ho
  split at ho
  · rename_i y x r
    cases ho
    exact lv_ixor hx hb hd (hk ls H locs hl hJ)
  · cases ho
theorem ok_ishl (hd : decode cc pc = .ok (.ishl, 1)) : f_ok l sh cc nL own T rt rm pc (i_ii (fun x y => x <<< (y &&& 31)) (pc + 1)) := by
  intro p e s m args below meth c Q D k q A hE lo st h ls H locs hl hJ o ho hk
  obtain ⟨hx, hb, hml, hown, hts, hK, hN, hA⟩ := hE
  unfold i_ii at ho
  dsimp only at ho
  split at ho
  · rename_i y x r
    cases ho
    exact lv_ishl hx hb hd (hk ls H locs hl hJ)
  · cases ho
theorem ok_ishr (hd : decode cc pc = .ok (.ishr, 1)) : f_ok l sh cc nL own T rt rm pc (i_ii (fun x y => x >>> (y &&& 31)) (pc + 1)) := by
  intro p e s m args below meth c Q D k q A hE lo st h ls H locs hl hJ o ho hk
  obtain ⟨hx, hb, hml, hown, hts, hK, hN, hA⟩ := hE
  unfold i_ii at ho
  dsimp only at ho
  split at ho
  · rename_i y x r
    cases ho
    exact lv_ishr hx hb hd (hk ls H locs hl hJ)
  · cases ho
theorem ok_iushr (hd : decode cc pc = .ok (.iushr, 1)) : f_ok l sh cc nL own T rt rm pc (i_ii (fun x y => (x.toUInt32 >>> (y.toUInt32 &&& Int32.toUInt32 31)).toInt32) (pc + 1)) := by
  intro p e s m args below meth c Q D k q A hE lo st h ls H locs hl hJ o ho hk
  obtain ⟨hx, hb, hml, hown, hts, hK, hN, hA⟩ := hE
  unfold i_ii at ho
  dsimp only at ho
  split at ho
  · rename_i y x r
    cases ho
    exact lv_iushr hx hb hd rfl (hk ls H locs hl hJ)
  · cases ho
def i_iid (op : Int32 → Int32 → Int32) (n : Nat) : f_I := fun s => match s.2.1 with
  | .inl y :: .inl x :: r => if y = 0 then none else some (.inl (n, s.1, .inl (op x y) :: r, s.2.2))
  | _ => none
theorem ok_idiv (hd : decode cc pc = .ok (.idiv, 1)) : f_ok l sh cc nL own T rt rm pc (i_iid (fun x y => x / y) (pc + 1)) := by
  intro p e s m args below meth c Q D k q A hE lo st h ls H locs hl hJ o ho hk
  obtain ⟨hx, hb, hml, hown, hts, hK, hN, hA⟩ := hE
  unfold i_iid at ho
  dsimp only at ho
  split at ho
  · rename_i y x r
    split at ho
    · cases ho
    · rename_i hne
      cases ho
      exact lv_idiv hx hb hd hne (hk ls H locs hl hJ)
  · cases ho
theorem ok_irem (hd : decode cc pc = .ok (.irem, 1)) : f_ok l sh cc nL own T rt rm pc (i_iid (fun x y => x - x / y * y) (pc + 1)) := by
  intro p e s m args below meth c Q D k q A hE lo st h ls H locs hl hJ o ho hk
  obtain ⟨hx, hb, hml, hown, hts, hK, hN, hA⟩ := hE
  unfold i_iid at ho
  dsimp only at ho
  split at ho
  · rename_i y x r
    split at ho
    · cases ho
    · rename_i hne
      cases ho
      exact lv_irem hx hb hd hne (hk ls H locs hl hJ)
  · cases ho
def i_ll (op : Int64 → Int64 → Int64) (n : Nat) : f_I := fun s => match s.2.1 with
  | .inr (.inl y) :: .inr (.inl x) :: r => some (.inl (n, s.1, .inr (.inl (op x y)) :: r, s.2.2))
  | _ => none
theorem ok_ladd (hd : decode cc pc = .ok (.ladd, 1)) : f_ok l sh cc nL own T rt rm pc (i_ll (fun x y => x + y) (pc + 1)) := by
  intro p e s m args below meth c Q D k q A hE lo st h ls H locs hl hJ o ho hk
  obtain ⟨hx, hb, hml, hown, hts, hK, hN, hA⟩ := hE
  unfold i_ll at ho
  dsimp only at ho
  split at ho
  · rename_i y x r
    cases ho
    exact lv_ladd hx hb hd (hk ls H locs hl hJ)
  · cases ho
theorem ok_lsub (hd : decode cc pc = .ok (.lsub, 1)) : f_ok l sh cc nL own T rt rm pc (i_ll (fun x y => x - y) (pc + 1)) := by
  intro p e s m args below meth c Q D k q A hE lo st h ls H locs hl hJ o ho hk
  obtain ⟨hx, hb, hml, hown, hts, hK, hN, hA⟩ := hE
  unfold i_ll at ho
  dsimp only at ho
  split at ho
  · rename_i y x r
    cases ho
    exact lv_lsub hx hb hd (hk ls H locs hl hJ)
  · cases ho
theorem ok_lmul (hd : decode cc pc = .ok (.lmul, 1)) : f_ok l sh cc nL own T rt rm pc (i_ll (fun x y => x * y) (pc + 1)) := by
  intro p e s m args below meth c Q D k q A hE lo st h ls H locs hl hJ o ho hk
  obtain ⟨hx, hb, hml, hown, hts, hK, hN, hA⟩ := hE
  unfold i_ll at ho
  dsimp only at ho
  split at ho
  · rename_i y x r
    cases ho
    exact lv_lmul hx hb hd (hk ls H locs hl hJ)
  · cases ho
theorem ok_land (hd : decode cc pc = .ok (.land, 1)) : f_ok l sh cc nL own T rt rm pc (i_ll (fun x y => x &&& y) (pc + 1)) := by
  intro p e s m args below meth c Q D k q A hE lo st h ls H locs hl hJ o ho hk
  obtain ⟨hx, hb, hml, hown, hts, hK, hN, hA⟩ := hE
  unfold i_ll at ho
  dsimp only at ho
  split at ho
  · rename_i y x r
    cases ho
    exact lv_land hx hb hd (hk ls H locs hl hJ)
  · cases ho
theorem ok_lor (hd : decode cc pc = .ok (.lor, 1)) : f_ok l sh cc nL own T rt rm pc (i_ll (fun x y => x ||| y) (pc + 1)) := by
  intro p e s m args below meth c Q D k q A hE lo st h ls H locs hl hJ o ho hk
  obtain ⟨hx, hb, hml, hown, hts, hK, hN, hA⟩ := hE
  unfold i_ll at ho
  dsimp only at ho
  split at ho
  · rename_i y x r
    cases ho
    exact lv_lor hx hb hd (hk ls H locs hl hJ)
  · cases ho
def i_lld (op : Int64 → Int64 → Int64) (n : Nat) : f_I := fun s => match s.2.1 with
  | .inr (.inl y) :: .inr (.inl x) :: r => if y = 0 then none else some (.inl (n, s.1, .inr (.inl (op x y)) :: r, s.2.2))
  | _ => none
theorem ok_ldiv (hd : decode cc pc = .ok (.ldiv, 1)) : f_ok l sh cc nL own T rt rm pc (i_lld (fun x y => x / y) (pc + 1)) := by
  intro p e s m args below meth c Q D k q A hE lo st h ls H locs hl hJ o ho hk
  obtain ⟨hx, hb, hml, hown, hts, hK, hN, hA⟩ := hE
  unfold i_lld at ho
  dsimp only at ho
  split at ho
  · rename_i y x r
    split at ho
    · cases ho
    · rename_i hne
      cases ho
      exact lv_ldiv hx hb hd hne (hk ls H locs hl hJ)
  · cases ho
theorem ok_lrem (hd : decode cc pc = .ok (.lrem, 1)) : f_ok l sh cc nL own T rt rm pc (i_lld (fun x y => x - x / y * y) (pc + 1)) := by
  intro p e s m args below meth c Q D k q A hE lo st h ls H locs hl hJ o ho hk
  obtain ⟨hx, hb, hml, hown, hts, hK, hN, hA⟩ := hE
  unfold i_lld at ho
  dsimp only at ho
  split at ho
  · rename_i y x r
    split at ho
    · cases ho
    · rename_i hne
      cases ho
      exact lv_lrem hx hb hd hne (hk ls H locs hl hJ)
  · cases ho
def i_li (op : Int64 → Int32 → Int64) (n : Nat) : f_I := fun s => match s.2.1 with
  | .inl y :: .inr (.inl x) :: r => some (.inl (n, s.1, .inr (.inl (op x y)) :: r, s.2.2))
  | _ => none
theorem ok_lushr (hd : decode cc pc = .ok (.lushr, 1)) : f_ok l sh cc nL own T rt rm pc (i_li (fun x y => (x.toUInt64 >>> (y.toInt64.toUInt64 &&& Int64.toUInt64 63)).toInt64) (pc + 1)) := by
  intro p e s m args below meth c Q D k q A hE lo st h ls H locs hl hJ o ho hk
  obtain ⟨hx, hb, hml, hown, hts, hK, hN, hA⟩ := hE
  unfold i_li at ho
  dsimp only at ho
  split at ho
  · rename_i y x r
    cases ho
    exact lv_lushr hx hb hd rfl (hk ls H locs hl hJ)
  · cases ho
theorem ok_lshl (hd : decode cc pc = .ok (.lshl, 1)) : f_ok l sh cc nL own T rt rm pc (i_li (fun x y => x <<< (y.toInt64 &&& 63)) (pc + 1)) := by
  intro p e s m args below meth c Q D k q A hE lo st h ls H locs hl hJ o ho hk
  obtain ⟨hx, hb, hml, hown, hts, hK, hN, hA⟩ := hE
  unfold i_li at ho
  dsimp only at ho
  split at ho
  · rename_i y x r
    cases ho
    exact lv_lshl hx hb hd rfl (hk ls H locs hl hJ)
  · cases ho
theorem ok_lshr (hd : decode cc pc = .ok (.lshr, 1)) : f_ok l sh cc nL own T rt rm pc (i_li (fun x y => x >>> (y.toInt64 &&& 63)) (pc + 1)) := by
  intro p e s m args below meth c Q D k q A hE lo st h ls H locs hl hJ o ho hk
  obtain ⟨hx, hb, hml, hown, hts, hK, hN, hA⟩ := hE
  unfold i_li at ho
  dsimp only at ho
  split at ho
  · rename_i y x r
    cases ho
    exact lv_lshr hx hb hd rfl (hk ls H locs hl hJ)
  · cases ho
def i_i2l (n : Nat) : f_I := fun s => match s.2.1 with
  | .inl x :: r => some (.inl (n, s.1, .inr (.inl x.toInt64) :: r, s.2.2))
  | _ => none
theorem ok_i2l (hd : decode cc pc = .ok (.i2l, 1)) : f_ok l sh cc nL own T rt rm pc (i_i2l (pc + 1)) := by
  intro p e s m args below meth c Q D k q A hE lo st h ls H locs hl hJ o ho hk
  obtain ⟨hx, hb, hml, hown, hts, hK, hN, hA⟩ := hE
  unfold i_i2l at ho
  dsimp only at ho
  split at ho
  · rename_i x r
    cases ho
    exact lv_i2l hx hb hd rfl (hk ls H locs hl hJ)
  · cases ho
def i_l2i (n : Nat) : f_I := fun s => match s.2.1 with
  | .inr (.inl x) :: r => some (.inl (n, s.1, .inl x.toInt32 :: r, s.2.2))
  | _ => none
theorem ok_l2i (hd : decode cc pc = .ok (.l2i, 1)) : f_ok l sh cc nL own T rt rm pc (i_l2i (pc + 1)) := by
  intro p e s m args below meth c Q D k q A hE lo st h ls H locs hl hJ o ho hk
  obtain ⟨hx, hb, hml, hown, hts, hK, hN, hA⟩ := hE
  unfold i_l2i at ho
  dsimp only at ho
  split at ho
  · rename_i x r
    cases ho
    exact lv_l2i hx hb hd rfl (hk ls H locs hl hJ)
  · cases ho
def i_i1 (op : Int32 → Int32) (n : Nat) : f_I := fun s => match s.2.1 with
  | .inl x :: r => some (.inl (n, s.1, .inl (op x) :: r, s.2.2))
  | _ => none
theorem ok_i2c (hd : decode cc pc = .ok (.i2c, 1)) : f_ok l sh cc nL own T rt rm pc (i_i1 (fun x => (x.toUInt32 % 65536).toInt32) (pc + 1)) := by
  intro p e s m args below meth c Q D k q A hE lo st h ls H locs hl hJ o ho hk
  obtain ⟨hx, hb, hml, hown, hts, hK, hN, hA⟩ := hE
  unfold i_i1 at ho
  dsimp only at ho
  split at ho
  · rename_i x r
    cases ho
    exact lv_i2c hx hb hd rfl (hk ls H locs hl hJ)
  · cases ho
theorem ok_ineg (hd : decode cc pc = .ok (.ineg, 1)) : f_ok l sh cc nL own T rt rm pc (i_i1 (fun x => -x) (pc + 1)) := by
  intro p e s m args below meth c Q D k q A hE lo st h ls H locs hl hJ o ho hk
  obtain ⟨hx, hb, hml, hown, hts, hK, hN, hA⟩ := hE
  unfold i_i1 at ho
  dsimp only at ho
  split at ho
  · rename_i x r
    cases ho
    exact lv_ineg hx hb hd (hk ls H locs hl hJ)
  · cases ho
def i_dup (n : Nat) : f_I := fun s => match s.2.1 with
  | v :: r => if f_cat v = 1 then some (.inl (n, s.1, v :: v :: r, s.2.2)) else none
  | _ => none
theorem ok_dup (hd : decode cc pc = .ok (.dup, 1)) : f_ok l sh cc nL own T rt rm pc (i_dup (pc + 1)) := by
  intro p e s m args below meth c Q D k q A hE lo st h ls H locs hl hJ o ho hk
  obtain ⟨hx, hb, hml, hown, hts, hK, hN, hA⟩ := hE
  unfold i_dup at ho
  dsimp only at ho
  split at ho
  · rename_i v r
    split at ho
    · rename_i hc
      cases ho
      exact lv_dup hx hb hd ((f_cat_eq q v).trans hc) (hk ls H locs hl hJ)
    · cases ho
  · cases ho
def i_pop (n : Nat) : f_I := fun s => match s.2.1 with
  | v :: r => if f_cat v = 1 then some (.inl (n, s.1, r, s.2.2)) else none
  | _ => none
theorem ok_pop (hd : decode cc pc = .ok (.pop, 1)) : f_ok l sh cc nL own T rt rm pc (i_pop (pc + 1)) := by
  intro p e s m args below meth c Q D k q A hE lo st h ls H locs hl hJ o ho hk
  obtain ⟨hx, hb, hml, hown, hts, hK, hN, hA⟩ := hE
  unfold i_pop at ho
  dsimp only at ho
  split at ho
  · rename_i v r
    split at ho
    · rename_i hc
      cases ho
      exact lv_pop hx hb hd ((f_cat_eq q v).trans hc) (hk ls H locs hl hJ)
    · cases ho
  · cases ho
def i_dup2 (n : Nat) : f_I := fun s => match s.2.1 with
  | v :: w :: r => if f_cat v = 1 ∧ f_cat w = 1 then some (.inl (n, s.1, v :: w :: v :: w :: r, s.2.2)) else none
  | _ => none
theorem ok_dup2 (hd : decode cc pc = .ok (.dup2, 1)) : f_ok l sh cc nL own T rt rm pc (i_dup2 (pc + 1)) := by
  intro p e s m args below meth c Q D k q A hE lo st h ls H locs hl hJ o ho hk
  obtain ⟨hx, hb, hml, hown, hts, hK, hN, hA⟩ := hE
  unfold i_dup2 at ho
  dsimp only at ho
  split at ho
  · rename_i v w r
    split at ho
    · rename_i hc
      cases ho
      exact lv_dup2_11 hx hb hd ((f_cat_eq q v).trans hc.1) ((f_cat_eq q w).trans hc.2) (hk ls H locs hl hJ)
    · cases ho
  · cases ho
def i_if_eq (t n : Nat) : f_I := fun s => match s.2.1 with
  | .inl x :: r => if x = 0 then some (.inl (t, s.1, r, s.2.2)) else some (.inl (n, s.1, r, s.2.2))
  | _ => none
theorem ok_if_eq {off : Int} {t : Nat} (hd : decode cc pc = .ok (.ifCond .eq off, 3)) (ht : (pc : Int) + off = (t : Int)) : f_ok l sh cc nL own T rt rm pc (i_if_eq t (pc + 3)) := by
  intro p e s m args below meth c Q D k q A hE lo st h ls H locs hl hJ o ho hk
  obtain ⟨hx, hb, hml, hown, hts, hK, hN, hA⟩ := hE
  unfold i_if_eq at ho
  dsimp only at ho
  split at ho
  · rename_i x r
    refine lv_if_eq hx hb hd ht (fun hc => ?_) (fun hc => ?_)
    · rw [if_pos hc] at ho
      cases ho
      exact hk ls H locs hl hJ
    · rw [if_neg hc] at ho
      cases ho
      exact hk ls H locs hl hJ
  · cases ho
def i_if_ne (t n : Nat) : f_I := fun s => match s.2.1 with
  | .inl x :: r => if x = 0 then some (.inl (n, s.1, r, s.2.2)) else some (.inl (t, s.1, r, s.2.2))
  | _ => none
theorem ok_if_ne {off : Int} {t : Nat} (hd : decode cc pc = .ok (.ifCond .ne off, 3)) (ht : (pc : Int) + off = (t : Int)) : f_ok l sh cc nL own T rt rm pc (i_if_ne t (pc + 3)) := by
  intro p e s m args below meth c Q D k q A hE lo st h ls H locs hl hJ o ho hk
  obtain ⟨hx, hb, hml, hown, hts, hK, hN, hA⟩ := hE
  unfold i_if_ne at ho
  dsimp only at ho
  split at ho
  · rename_i x r
    refine lv_if_ne hx hb hd ht (fun hc => ?_) (fun hc => ?_)
    · rw [if_neg hc] at ho
      cases ho
      exact hk ls H locs hl hJ
    · rw [if_pos hc] at ho
      cases ho
      exact hk ls H locs hl hJ
  · cases ho
def i_if_lt (t n : Nat) : f_I := fun s => match s.2.1 with
  | .inl x :: r => if x < 0 then some (.inl (t, s.1, r, s.2.2)) else some (.inl (n, s.1, r, s.2.2))
  | _ => none
theorem ok_if_lt {off : Int} {t : Nat} (hd : decode cc pc = .ok (.ifCond .lt off, 3)) (ht : (pc : Int) + off = (t : Int)) : f_ok l sh cc nL own T rt rm pc (i_if_lt t (pc + 3)) := by
  intro p e s m args below meth c Q D k q A hE lo st h ls H locs hl hJ o ho hk
  obtain ⟨hx, hb, hml, hown, hts, hK, hN, hA⟩ := hE
  unfold i_if_lt at ho
  dsimp only at ho
  split at ho
  · rename_i x r
    refine lv_if_lt hx hb hd ht (fun hc => ?_) (fun hc => ?_)
    · rw [if_pos hc] at ho
      cases ho
      exact hk ls H locs hl hJ
    · rw [if_neg hc] at ho
      cases ho
      exact hk ls H locs hl hJ
  · cases ho
def i_if_ge (t n : Nat) : f_I := fun s => match s.2.1 with
  | .inl x :: r => if 0 ≤ x then some (.inl (t, s.1, r, s.2.2)) else some (.inl (n, s.1, r, s.2.2))
  | _ => none
theorem ok_if_ge {off : Int} {t : Nat} (hd : decode cc pc = .ok (.ifCond .ge off, 3)) (ht : (pc : Int) + off = (t : Int)) : f_ok l sh cc nL own T rt rm pc (i_if_ge t (pc + 3)) := by
  intro p e s m args below meth c Q D k q A hE lo st h ls H locs hl hJ o ho hk
  obtain ⟨hx, hb, hml, hown, hts, hK, hN, hA⟩ := hE
  unfold i_if_ge at ho
  dsimp only at ho
  split at ho
  · rename_i x r
    refine lv_if_ge hx hb hd ht (fun hc => ?_) (fun hc => ?_)
    · rw [if_pos hc] at ho
      cases ho
      exact hk ls H locs hl hJ
    · rw [if_neg hc] at ho
      cases ho
      exact hk ls H locs hl hJ
  · cases ho
def i_if_gt (t n : Nat) : f_I := fun s => match s.2.1 with
  | .inl x :: r => if 0 < x then some (.inl (t, s.1, r, s.2.2)) else some (.inl (n, s.1, r, s.2.2))
  | _ => none
theorem ok_if_gt {off : Int} {t : Nat} (hd : decode cc pc = .ok (.ifCond .gt off, 3)) (ht : (pc : Int) + off = (t : Int)) : f_ok l sh cc nL own T rt rm pc (i_if_gt t (pc + 3)) := by
  intro p e s m args below meth c Q D k q A hE lo st h ls H locs hl hJ o ho hk
  obtain ⟨hx, hb, hml, hown, hts, hK, hN, hA⟩ := hE
  unfold i_if_gt at ho
  dsimp only at ho
  split at ho
  · rename_i x r
    refine lv_if_gt hx hb hd ht (fun hc => ?_) (fun hc => ?_)
    · rw [if_pos hc] at ho
      cases ho
      exact hk ls H locs hl hJ
    · rw [if_neg hc] at ho
      cases ho
      exact hk ls H locs hl hJ
  · cases ho
def i_if_le (t n : Nat) : f_I := fun s => match s.2.1 with
  | .inl x :: r => if x ≤ 0 then some (.inl (t, s.1, r, s.2.2)) else some (.inl (n, s.1, r, s.2.2))
  | _ => none
theorem ok_if_le {off : Int} {t : Nat} (hd : decode cc pc = .ok (.ifCond .le off, 3)) (ht : (pc : Int) + off = (t : Int)) : f_ok l sh cc nL own T rt rm pc (i_if_le t (pc + 3)) := by
  intro p e s m args below meth c Q D k q A hE lo st h ls H locs hl hJ o ho hk
  obtain ⟨hx, hb, hml, hown, hts, hK, hN, hA⟩ := hE
  unfold i_if_le at ho
  dsimp only at ho
  split at ho
  · rename_i x r
    refine lv_if_le hx hb hd ht (fun hc => ?_) (fun hc => ?_)
    · rw [if_pos hc] at ho
      cases ho
      exact hk ls H locs hl hJ
    · rw [if_neg hc] at ho
      cases ho
      exact hk ls H locs hl hJ
  · cases ho
def i_ic_eq (t n : Nat) : f_I := fun s => match s.2.1 with
  | .inl y :: .inl x :: r => if x = y then some (.inl (t, s.1, r, s.2.2)) else some (.inl (n, s.1, r, s.2.2))
  | _ => none
theorem ok_ic_eq {off : Int} {t : Nat} (hd : decode cc pc = .ok (.if_icmp .eq off, 3)) (ht : (pc : Int) + off = (t : Int)) : f_ok l sh cc nL own T rt rm pc (i_ic_eq t (pc + 3)) := by
  intro p e s m args below meth c Q D k q A hE lo st h ls H locs hl hJ o ho hk
  obtain ⟨hx, hb, hml, hown, hts, hK, hN, hA⟩ := hE
  unfold i_ic_eq at ho
  dsimp only at ho
  split at ho
  · rename_i y x r
    refine lv_icmp_eq hx hb hd ht (fun hc => ?_) (fun hc => ?_)
    · rw [if_pos hc] at ho
      cases ho
      exact hk ls H locs hl hJ
    · rw [if_neg hc] at ho
      cases ho
      exact hk ls H locs hl hJ
  · cases ho
def i_ic_ne (t n : Nat) : f_I := fun s => match s.2.1 with
  | .inl y :: .inl x :: r => if x = y then some (.inl (n, s.1, r, s.2.2)) else some (.inl (t, s.1, r, s.2.2))
  | _ => none
theorem ok_ic_ne {off : Int} {t : Nat} (hd : decode cc pc = .ok (.if_icmp .ne off, 3)) (ht : (pc : Int) + off = (t : Int)) : f_ok l sh cc nL own T rt rm pc (i_ic_ne t (pc + 3)) := by
  intro p e s m args below meth c Q D k q A hE lo st h ls H locs hl hJ o ho hk
  obtain ⟨hx, hb, hml, hown, hts, hK, hN, hA⟩ := hE
  unfold i_ic_ne at ho
  dsimp only at ho
  split at ho
  · rename_i y x r
    refine lv_icmp_ne hx hb hd ht (fun hc => ?_) (fun hc => ?_)
    · rw [if_neg hc] at ho
      cases ho
      exact hk ls H locs hl hJ
    · rw [if_pos hc] at ho
      cases ho
      exact hk ls H locs hl hJ
  · cases ho
def i_ic_lt (t n : Nat) : f_I := fun s => match s.2.1 with
  | .inl y :: .inl x :: r => if x < y then some (.inl (t, s.1, r, s.2.2)) else some (.inl (n, s.1, r, s.2.2))
  | _ => none
theorem ok_ic_lt {off : Int} {t : Nat} (hd : decode cc pc = .ok (.if_icmp .lt off, 3)) (ht : (pc : Int) + off = (t : Int)) : f_ok l sh cc nL own T rt rm pc (i_ic_lt t (pc + 3)) := by
  intro p e s m args below meth c Q D k q A hE lo st h ls H locs hl hJ o ho hk
  obtain ⟨hx, hb, hml, hown, hts, hK, hN, hA⟩ := hE
  unfold i_ic_lt at ho
  dsimp only at ho
  split at ho
  · rename_i y x r
    refine lv_icmp_lt hx hb hd ht (fun hc => ?_) (fun hc => ?_)
    · rw [if_pos hc] at ho
      cases ho
      exact hk ls H locs hl hJ
    · rw [if_neg hc] at ho
      cases ho
      exact hk ls H locs hl hJ
  · cases ho
def i_ic_ge (t n : Nat) : f_I := fun s => match s.2.1 with
  | .inl y :: .inl x :: r => if y ≤ x then some (.inl (t, s.1, r, s.2.2)) else some (.inl (n, s.1, r, s.2.2))
  | _ => none
theorem ok_ic_ge {off : Int} {t : Nat} (hd : decode cc pc = .ok (.if_icmp .ge off, 3)) (ht : (pc : Int) + off = (t : Int)) : f_ok l sh cc nL own T rt rm pc (i_ic_ge t (pc + 3)) := by
  intro p e s m args below meth c Q D k q A hE lo st h ls H locs hl hJ o ho hk
  obtain ⟨hx, hb, hml, hown, hts, hK, hN, hA⟩ := hE
  unfold i_ic_ge at ho
  dsimp only at ho
  split at ho
  · rename_i y x r
    refine lv_icmp_ge hx hb hd ht (fun hc => ?_) (fun hc => ?_)
    · rw [if_pos hc] at ho
      cases ho
      exact hk ls H locs hl hJ
    · rw [if_neg hc] at ho
      cases ho
      exact hk ls H locs hl hJ
  · cases ho
def i_ic_gt (t n : Nat) : f_I := fun s => match s.2.1 with
  | .inl y :: .inl x :: r => if y < x then some (.inl (t, s.1, r, s.2.2)) else some (.inl (n, s.1, r, s.2.2))
  | _ => none
theorem ok_ic_gt {off : Int} {t : Nat} (hd : decode cc pc = .ok (.if_icmp .gt off, 3)) (ht : (pc : Int) + off = (t : Int)) : f_ok l sh cc nL own T rt rm pc (i_ic_gt t (pc + 3)) := by
  intro p e s m args below meth c Q D k q A hE lo st h ls H locs hl hJ o ho hk
  obtain ⟨hx, hb, hml, hown, hts, hK, hN, hA⟩ := hE
  unfold i_ic_gt at ho
  dsimp only at ho
  split at ho
  · rename_i y x r
    refine lv_icmp_gt hx hb hd ht (fun hc => ?_) (fun hc => ?_)
    · rw [if_pos hc] at ho
      cases ho
      exact hk ls H locs hl hJ
    · rw [if_neg hc] at ho
      cases ho
      exact hk ls H locs hl hJ
  · cases ho
def i_ic_le (t n : Nat) : f_I := fun s => match s.2.1 with
  | .inl y :: .inl x :: r => if x ≤ y then some (.inl (t, s.1, r, s.2.2)) else some (.inl (n, s.1, r, s.2.2))
  | _ => none
theorem ok_ic_le {off : Int} {t : Nat} (hd : decode cc pc = .ok (.if_icmp .le off, 3)) (ht : (pc : Int) + off = (t : Int)) : f_ok l sh cc nL own T rt rm pc (i_ic_le t (pc + 3)) := by
  intro p e s m args below meth c Q D k q A hE lo st h ls H locs hl hJ o ho hk
  obtain ⟨hx, hb, hml, hown, hts, hK, hN, hA⟩ := hE
  unfold i_ic_le at ho
  dsimp only at ho
  split at ho
  · rename_i y x r
    refine lv_icmp_le hx hb hd ht (fun hc => ?_) (fun hc => ?_)
    · rw [if_pos hc] at ho
      cases ho
      exact hk ls H locs hl hJ
    · rw [if_neg hc] at ho
      cases ho
      exact hk ls H locs hl hJ
  · cases ho
def i_goto (t : Nat) : f_I := fun s => some (.inl (t, s.1, s.2.1, s.2.2))
theorem ok_goto {off : Int} {t : Nat} (hd : decode cc pc = .ok (.goto off, 3)) (ht : (pc : Int) + off = (t : Int)) : f_ok l sh cc nL own T rt rm pc (i_goto t) := by
  intro p e s m args below meth c Q D k q A hE lo st h ls H locs hl hJ o ho hk
  obtain ⟨hx, hb, hml, hown, hts, hK, hN, hA⟩ := hE
  cases ho
  exact lv_goto hx hb hd ht (hk ls H locs hl hJ)
def i_lcmp (n : Nat) : f_I := fun s => match s.2.1 with
  | .inr (.inl y) :: .inr (.inl x) :: r => some (.inl (n, s.1, .inl (lg_cmp x y) :: r, s.2.2))
  | _ => none
theorem ok_lcmp (hd : decode cc pc = .ok (.lcmp, 1)) : f_ok l sh cc nL own T rt rm pc (i_lcmp (pc + 1)) := by
  intro p e s m args below meth c Q D k q A hE lo st h ls H locs hl hJ o ho hk
  obtain ⟨hx, hb, hml, hown, hts, hK, hN, hA⟩ := hE
  unfold i_lcmp at ho
  dsimp only at ho
  split at ho
  · rename_i y x r
    cases ho
    exact W.lcmp hx hb hd (hk ls H locs hl hJ)
  · cases ho
def i_ifnull (t n : Nat) : f_I := fun s => match s.2.1 with
  | .inr (.inr none) :: r => some (.inl (t, s.1, r, s.2.2))
  | .inr (.inr (some _)) :: r => some (.inl (n, s.1, r, s.2.2))
  | _ => none
theorem ok_ifnull {off : Int} {t : Nat} (hd : decode cc pc = .ok (.ifnull off, 3)) (ht : (pc : Int) + off = (t : Int)) : f_ok l sh cc nL own T rt rm pc (i_ifnull t (pc + 3)) := by
  intro p e s m args below meth c Q D k q A hE lo st h ls H locs hl hJ o ho hk
  obtain ⟨hx, hb, hml, hown, hts, hK, hN, hA⟩ := hE
  unfold i_ifnull at ho
  dsimp only at ho
  split at ho
  · cases ho
    exact lv_ifnullN hx hb hd ht (hk ls H locs hl hJ)
  · cases ho
    exact lv_ifnull hx hb hd (hk ls H locs hl hJ)
  · cases ho
theorem ok_ifnonnull {off : Int} {t : Nat} (hd : decode cc pc = .ok (.ifnonnull off, 3)) (ht : (pc : Int) + off = (t : Int)) : f_ok l sh cc nL own T rt rm pc (i_ifnull (pc + 3) t) := by
  intro p e s m args below meth c Q D k q A hE lo st h ls H locs hl hJ o ho hk
  obtain ⟨hx, hb, hml, hown, hts, hK, hN, hA⟩ := hE
  unfold i_ifnull at ho
  dsimp only at ho
  split at ho
  · cases ho
    exact lv_ifnonnullN hx hb hd (hk ls H locs hl hJ)
  · cases ho
    exact lv_ifnonnull hx hb hd ht (hk ls H locs hl hJ)
  · cases ho
def i_tab (lo : Int) (ts : List Nat) (d : Nat) : f_I := fun s => match s.2.1 with
  | .inl x :: r => if x.toInt < lo ∨ lo + ts.length ≤ x.toInt then some (.inl (d, s.1, r, s.2.2)) else match ts[(x.toInt - lo).toNat]? with
    | some t => some (.inl (t, s.1, r, s.2.2))
    | none => none
  | _ => none
theorem ok_tab {dflt lo0 hi : Int} {offs : Array Int} {len : Nat} {ts : List Nat} {d : Nat} (hd : decode cc pc = .ok (.tableswitch dflt lo0 hi offs, len)) (hh : hi = lo0 + ts.length - 1) (hdd : (pc : Int) + dflt = (d : Int)) (hts2 : offs.toList.map (fun x => (pc : Int) + x) = ts.map (fun (t : Nat) => (t : Int))) : f_ok l sh cc nL own T rt rm pc (i_tab lo0 ts d) := by
  intro p e s m args below meth c Q D k q A hE lo st h ls H locs hl hJ o ho hk
  obtain ⟨hx, hb, hml, hown, hts, hK, hN, hA⟩ := hE
  unfold i_tab at ho
  dsimp only at ho
  split at ho
  · rename_i x r
    by_cases hc : x.toInt < lo0 ∨ lo0 + ts.length ≤ x.toInt
    · rw [if_pos hc] at ho
      cases ho
      exact lv_tableOut hx hb hd (by omega) hdd (hk ls H locs hl hJ)
    · rw [if_neg hc] at ho
      split at ho
      · rename_i t ht
        cases ho
        have h1 : (offs.toList.map (fun x => (pc : Int) + x))[(x.toInt - lo0).toNat]? = some (t : Int) := by rw [hts2, List.getElem?_map, ht]; rfl
        rw [List.getElem?_map] at h1
        cases ho2 : offs.toList[(x.toInt - lo0).toNat]? with
        | none => rw [ho2] at h1; cases h1
        | some off =>
          rw [ho2] at h1
          have h2 : (pc : Int) + off = (t : Int) := Option.some.inj h1
          exact lv_tableIn hx hb hd (by omega) (by omega) (by rw [← Array.getElem?_toList]; exact ho2) h2 (hk ls H locs hl hJ)
      · cases ho
  · cases ho
theorem f_apart {A : Nat → Prop} {sh : List f_X} {k : Nat → ClassId} {q : Nat → Nat} {h : f_H} (hD : va_D A (f_w sh k q h)) {x y : Option Nat} (hx : ∀ i, x = some i → i < sh.length) (hy : ∀ i, y = some i → i < sh.length) : x.map q = y.map q ↔ x = y := by
  constructor
  · intro e
    cases x with
    | none => cases y with
      | none => rfl
      | some j => cases e
    | some i => cases y with
      | none => cases e
      | some j =>
        have e2 : q i = q j := Option.some.inj e
        have h1 := f_w_get (k := k) (q := q) (h := h) (List.getElem?_eq_getElem (hx i rfl))
        have h2 := f_w_get (k := k) (q := q) (h := h) (List.getElem?_eq_getElem (hy j rfl))
        rw [hD.1 i j _ _ h1 h2 e2]
  · intro e
    rw [e]
def f_below (N : Nat) (x : Option Nat) : Bool := match x with
  | none => true
  | some i => decide (i < N)
theorem f_below_lt {N : Nat} {x : Option Nat} (h : f_below N x = true) : ∀ i, x = some i → i < N := fun i e => by
  subst e
  exact of_decide_eq_true h
def i_ac_eq (N t n : Nat) : f_I := fun s => match s.2.1 with
  | .inr (.inr y) :: .inr (.inr x) :: r => if (f_below N x && f_below N y) = true then (if x = y then some (.inl (t, s.1, r, s.2.2)) else some (.inl (n, s.1, r, s.2.2))) else none
  | _ => none
theorem ok_ac_eq {off : Int} {t : Nat} (hd : decode cc pc = .ok (.if_acmp .eq off, 3)) (ht : (pc : Int) + off = (t : Int)) : f_ok l sh cc nL own T rt rm pc (i_ac_eq sh.length t (pc + 3)) := by
  intro p e s m args below meth c Q D k q A hE lo st h ls H locs hl hJ o ho hk
  obtain ⟨hx, hb, hml, hown, hts, hK, hN, hA⟩ := hE
  unfold i_ac_eq at ho
  dsimp only at ho
  split at ho
  · rename_i y x r
    split at ho
    · rename_i hc
      rw [Bool.and_eq_true] at hc
      have ha := f_apart hJ.2.1 (f_below_lt hc.1) (f_below_lt hc.2)
      refine lv_acmp_eq hx hb hd ht (rx := x.map q) (ry := y.map q) (fun hc => ?_) (fun hc => ?_)
      · rw [if_pos (ha.mp hc)] at ho
        cases ho
        exact hk ls H locs hl hJ
      · rw [if_neg (fun z => absurd (ha.mpr z) hc)] at ho
        cases ho
        exact hk ls H locs hl hJ
    · cases ho
  · cases ho
def i_ac_ne (N t n : Nat) : f_I := fun s => match s.2.1 with
  | .inr (.inr y) :: .inr (.inr x) :: r => if (f_below N x && f_below N y) = true then (if x = y then some (.inl (n, s.1, r, s.2.2)) else some (.inl (t, s.1, r, s.2.2))) else none
  | _ => none
theorem ok_ac_ne {off : Int} {t : Nat} (hd : decode cc pc = .ok (.if_acmp .ne off, 3)) (ht : (pc : Int) + off = (t : Int)) : f_ok l sh cc nL own T rt rm pc (i_ac_ne sh.length t (pc + 3)) := by
  intro p e s m args below meth c Q D k q A hE lo st h ls H locs hl hJ o ho hk
  obtain ⟨hx, hb, hml, hown, hts, hK, hN, hA⟩ := hE
  unfold i_ac_ne at ho
  dsimp only at ho
  split at ho
  · rename_i y x r
    split at ho
    · rename_i hc
      rw [Bool.and_eq_true] at hc
      have ha := f_apart hJ.2.1 (f_below_lt hc.1) (f_below_lt hc.2)
      refine lv_acmp_ne hx hb hd ht (rx := x.map q) (ry := y.map q) (fun hc => ?_) (fun hc => ?_)
      · rw [if_neg (fun z => absurd (ha.mpr z) hc)] at ho
        cases ho
        exact hk ls H locs hl hJ
      · rw [if_pos (ha.mp hc)] at ho
        cases ho
        exact hk ls H locs hl hJ
    · cases ho
  · cases ho
theorem f_in {j : Int32} {N : Nat} (h : 0 ≤ j ∧ j.toNatClampNeg < N) : vp_in j N := fun z => z.elim (fun z => absurd h.1 (Int32.not_le.mpr z)) (fun z => absurd h.2 (Nat.not_lt.mpr z))
def i_iaload (sh : List f_X) (n : Nat) : f_I := fun s => match s.2.1 with
  | .inl j :: .inr (.inr (some i)) :: r => match sh[i]? with
    | some (.inl (1, N)) => if 0 ≤ j ∧ j.toNatClampNeg < N then some (.inl (n, s.1, .inl (s.2.2.1 i j.toNatClampNeg) :: r, s.2.2)) else none
    | _ => none
  | _ => none
theorem ok_iaload (hd : decode cc pc = .ok (.iaload, 1)) : f_ok l sh cc nL own T rt rm pc (i_iaload sh (pc + 1)) := by
  intro p e s m args below meth c Q D k q A hE lo st h ls H locs hl hJ o ho hk
  obtain ⟨hx, hb, hml, hown, hts, hK, hN, hA⟩ := hE
  unfold i_iaload at ho
  dsimp only at ho
  split at ho
  · rename_i j i r
    split at ho
    · rename_i N hs
      split at ho
      · rename_i hc
        cases ho
        exact va_iald hx hb hK hJ.1 i 1 (f_w_get hs) rfl (f_in hc) hd (hk ls H locs hl hJ)
      · cases ho
    · cases ho
  · cases ho
def i_baload (sh : List f_X) (n : Nat) : f_I := fun s => match s.2.1 with
  | .inl j :: .inr (.inr (some i)) :: r => match sh[i]? with
    | some (.inl (3, N)) => if 0 ≤ j ∧ j.toNatClampNeg < N then some (.inl (n, s.1, .inl (s.2.2.1 i j.toNatClampNeg) :: r, s.2.2)) else none
    | _ => none
  | _ => none
theorem ok_baload (hd : decode cc pc = .ok (.baload, 1)) : f_ok l sh cc nL own T rt rm pc (i_baload sh (pc + 1)) := by
  intro p e s m args below meth c Q D k q A hE lo st h ls H locs hl hJ o ho hk
  obtain ⟨hx, hb, hml, hown, hts, hK, hN, hA⟩ := hE
  unfold i_baload at ho
  dsimp only at ho
  split at ho
  · rename_i j i r
    split at ho
    · rename_i N hs
      split at ho
      · rename_i hc
        cases ho
        exact va_zald hx hb hK hJ.1 i 3 (f_w_get hs) rfl (f_in hc) hd (hk ls H locs hl hJ)
      · cases ho
    · cases ho
  · cases ho
def i_caload (sh : List f_X) (n : Nat) : f_I := fun s => match s.2.1 with
  | .inl j :: .inr (.inr (some i)) :: r => match sh[i]? with
    | some (.inl (0, N)) => if 0 ≤ j ∧ j.toNatClampNeg < N then some (.inl (n, s.1, .inl (s.2.2.1 i j.toNatClampNeg) :: r, s.2.2)) else none
    | _ => none
  | _ => none
theorem ok_caload (hd : decode cc pc = .ok (.caload, 1)) : f_ok l sh cc nL own T rt rm pc (i_caload sh (pc + 1)) := by
  intro p e s m args below meth c Q D k q A hE lo st h ls H locs hl hJ o ho hk
  obtain ⟨hx, hb, hml, hown, hts, hK, hN, hA⟩ := hE
  unfold i_caload at ho
  dsimp only at ho
  split at ho
  · rename_i j i r
    split at ho
    · rename_i N hs
      split at ho
      · rename_i hc
        cases ho
        exact va_cald hx hb hK hJ.1 i 0 (f_w_get hs) rfl (f_in hc) hd (hk ls H locs hl hJ)
      · cases ho
    · cases ho
  · cases ho
def i_laload (sh : List f_X) (n : Nat) : f_I := fun s => match s.2.1 with
  | .inl j :: .inr (.inr (some i)) :: r => match sh[i]? with
    | some (.inl (2, N)) => if 0 ≤ j ∧ j.toNatClampNeg < N then some (.inl (n, s.1, .inr (.inl (s.2.2.2.1 i j.toNatClampNeg)) :: r, s.2.2)) else none
    | _ => none
  | _ => none
theorem ok_laload (hd : decode cc pc = .ok (.laload, 1)) : f_ok l sh cc nL own T rt rm pc (i_laload sh (pc + 1)) := by
  intro p e s m args below meth c Q D k q A hE lo st h ls H locs hl hJ o ho hk
  obtain ⟨hx, hb, hml, hown, hts, hK, hN, hA⟩ := hE
  unfold i_laload at ho
  dsimp only at ho
  split at ho
  · rename_i j i r
    split at ho
    · rename_i N hs
      split at ho
      · rename_i hc
        cases ho
        exact va_lald hx hb hK hJ.1 i 2 (f_w_get hs) rfl (f_in hc) hd (hk ls H locs hl hJ)
      · cases ho
    · cases ho
  · cases ho
def i_aald4 (sh : List f_X) (n : Nat) : f_I := fun s => match s.2.1 with
  | .inl j :: .inr (.inr (some i)) :: r => match sh[i]? with
    | some (.inl (4, N)) => if 0 ≤ j ∧ j.toNatClampNeg < N then some (.inl (n, s.1, .inr (.inr (s.2.2.2.2 i j.toNatClampNeg)) :: r, s.2.2)) else none
    | _ => none
  | _ => none
theorem ok_aald4 (hd : decode cc pc = .ok (.aaload, 1)) : f_ok l sh cc nL own T rt rm pc (i_aald4 sh (pc + 1)) := by
  intro p e s m args below meth c Q D k q A hE lo st h ls H locs hl hJ o ho hk
  obtain ⟨hx, hb, hml, hown, hts, hK, hN, hA⟩ := hE
  unfold i_aald4 at ho
  dsimp only at ho
  split at ho
  · rename_i j i r
    split at ho
    · rename_i N hs
      split at ho
      · rename_i hc
        cases ho
        exact va_aldq hx hb hK hJ.1 i 4 (f_w_get hs) rfl (f_in hc) hd (hk ls H locs hl hJ)
      · cases ho
    · cases ho
  · cases ho
def i_aald5 (sh : List f_X) (n : Nat) : f_I := fun s => match s.2.1 with
  | .inl j :: .inr (.inr (some i)) :: r => match sh[i]? with
    | some (.inl (5, N)) => if 0 ≤ j ∧ j.toNatClampNeg < N then some (.inl (n, s.1, .inr (.inr (s.2.2.2.2 i j.toNatClampNeg)) :: r, s.2.2)) else none
    | _ => none
  | _ => none
theorem ok_aald5 (hd : decode cc pc = .ok (.aaload, 1)) : f_ok l sh cc nL own T rt rm pc (i_aald5 sh (pc + 1)) := by
  intro p e s m args below meth c Q D k q A hE lo st h ls H locs hl hJ o ho hk
  obtain ⟨hx, hb, hml, hown, hts, hK, hN, hA⟩ := hE
  unfold i_aald5 at ho
  dsimp only at ho
  split at ho
  · rename_i j i r
    split at ho
    · rename_i N hs
      split at ho
      · rename_i hc
        cases ho
        exact va_aldq hx hb hK hJ.1 i 5 (f_w_get hs) rfl (f_in hc) hd (hk ls H locs hl hJ)
      · cases ho
    · cases ho
  · cases ho
def i_iastore (sh : List f_X) (n : Nat) : f_I := fun s => match s.2.1 with
  | .inl x :: .inl j :: .inr (.inr (some i)) :: r => match sh[i]? with
    | some (.inl (1, N)) => if 0 ≤ j ∧ j.toNatClampNeg < N then some (.inl (n, s.1, r, f_uI s.2.2 i j.toNatClampNeg (x))) else none
    | _ => none
  | _ => none
theorem ok_iastore (hd : decode cc pc = .ok (.iastore, 1)) : f_ok l sh cc nL own T rt rm pc (i_iastore sh (pc + 1)) := by
  intro p e s m args below meth c Q D k q A hE lo st h ls H locs hl hJ o ho hk
  obtain ⟨hx, hb, hml, hown, hts, hK, hN, hA⟩ := hE
  unfold i_iastore at ho
  dsimp only at ho
  split at ho
  · rename_i x j i r
    split at ho
    · rename_i N hs
      split at ho
      · rename_i hc
        cases ho
        refine va_iast hx hb hK hJ.1 hJ.2.1 hJ.2.2 i 1 (f_w_get hs) rfl (f_in hc) hd (fun H1 locs1 h1 h2 h3 => ?_)
        have e := f_wI (k := k) (q := q) (h := h) hs (by decide) (by decide) (upd (h.1 i) j.toNatClampNeg (x))
        exact hk ls H1 locs1 hl ⟨e ▸ h1, e ▸ h2, h3⟩
      · cases ho
    · cases ho
  · cases ho
def i_bastore (sh : List f_X) (n : Nat) : f_I := fun s => match s.2.1 with
  | .inl x :: .inl j :: .inr (.inr (some i)) :: r => match sh[i]? with
    | some (.inl (3, N)) => if 0 ≤ j ∧ j.toNatClampNeg < N then some (.inl (n, s.1, r, f_uI s.2.2 i j.toNatClampNeg (vp_nar .boolean x))) else none
    | _ => none
  | _ => none
theorem ok_bastore (hd : decode cc pc = .ok (.bastore, 1)) : f_ok l sh cc nL own T rt rm pc (i_bastore sh (pc + 1)) := by
  intro p e s m args below meth c Q D k q A hE lo st h ls H locs hl hJ o ho hk
  obtain ⟨hx, hb, hml, hown, hts, hK, hN, hA⟩ := hE
  unfold i_bastore at ho
  dsimp only at ho
  split at ho
  · rename_i x j i r
    split at ho
    · rename_i N hs
      split at ho
      · rename_i hc
        cases ho
        refine va_zast hx hb hK hJ.1 hJ.2.1 hJ.2.2 i 3 (f_w_get hs) rfl (f_in hc) hd (fun H1 locs1 h1 h2 h3 => ?_)
        have e := f_wI (k := k) (q := q) (h := h) hs (by decide) (by decide) (upd (h.1 i) j.toNatClampNeg (vp_nar .boolean x))
        exact hk ls H1 locs1 hl ⟨e ▸ h1, e ▸ h2, h3⟩
      · cases ho
    · cases ho
  · cases ho
def i_castore (sh : List f_X) (n : Nat) : f_I := fun s => match s.2.1 with
  | .inl x :: .inl j :: .inr (.inr (some i)) :: r => match sh[i]? with
    | some (.inl (0, N)) => if 0 ≤ j ∧ j.toNatClampNeg < N then some (.inl (n, s.1, r, f_uI s.2.2 i j.toNatClampNeg (vp_nar .char x))) else none
    | _ => none
  | _ => none
theorem ok_castore (hd : decode cc pc = .ok (.castore, 1)) : f_ok l sh cc nL own T rt rm pc (i_castore sh (pc + 1)) := by
  intro p e s m args below meth c Q D k q A hE lo st h ls H locs hl hJ o ho hk
  obtain ⟨hx, hb, hml, hown, hts, hK, hN, hA⟩ := hE
  unfold i_castore at ho
  dsimp only at ho
  split at ho
  · rename_i x j i r
    split at ho
    · rename_i N hs
      split at ho
      · rename_i hc
        cases ho
        refine va_cast hx hb hK hJ.1 hJ.2.1 hJ.2.2 i 0 (f_w_get hs) rfl (f_in hc) hd (fun H1 locs1 h1 h2 h3 => ?_)
        have e := f_wI (k := k) (q := q) (h := h) hs (by decide) (by decide) (upd (h.1 i) j.toNatClampNeg (vp_nar .char x))
        exact hk ls H1 locs1 hl ⟨e ▸ h1, e ▸ h2, h3⟩
      · cases ho
    · cases ho
  · cases ho
def i_lastore (sh : List f_X) (n : Nat) : f_I := fun s => match s.2.1 with
  | .inr (.inl x) :: .inl j :: .inr (.inr (some i)) :: r => match sh[i]? with
    | some (.inl (2, N)) => if 0 ≤ j ∧ j.toNatClampNeg < N then some (.inl (n, s.1, r, f_uL s.2.2 i j.toNatClampNeg x)) else none
    | _ => none
  | _ => none
theorem ok_lastore (hd : decode cc pc = .ok (.lastore, 1)) : f_ok l sh cc nL own T rt rm pc (i_lastore sh (pc + 1)) := by
  intro p e s m args below meth c Q D k q A hE lo st h ls H locs hl hJ o ho hk
  obtain ⟨hx, hb, hml, hown, hts, hK, hN, hA⟩ := hE
  unfold i_lastore at ho
  dsimp only at ho
  split at ho
  · rename_i x j i r
    split at ho
    · rename_i N hs
      split at ho
      · rename_i hc
        cases ho
        refine va_last hx hb hK hJ.1 hJ.2.1 hJ.2.2 i 2 (f_w_get hs) rfl (f_in hc) hd (fun H1 locs1 h1 h2 h3 => ?_)
        have e := f_wL (k := k) (q := q) (h := h) (j := j.toNatClampNeg) (x := x) hs
        exact hk ls H1 locs1 hl ⟨e ▸ h1, e ▸ h2, h3⟩
      · cases ho
    · cases ho
  · cases ho
def i_alen (sh : List f_X) (n : Nat) : f_I := fun s => match s.2.1 with
  | .inr (.inr (some i)) :: r => match sh[i]? with
    | some (.inl (t, N)) => if t < 6 then some (.inl (n, s.1, .inl (Int32.ofNat N) :: r, s.2.2)) else none
    | _ => none
  | _ => none
theorem ok_alen (hd : decode cc pc = .ok (.arraylength, 1)) : f_ok l sh cc nL own T rt rm pc (i_alen sh (pc + 1)) := by
  intro p e s m args below meth c Q D k q A hE lo st h ls H locs hl hJ o ho hk
  obtain ⟨hx, hb, hml, hown, hts, hK, hN, hA⟩ := hE
  unfold i_alen at ho
  dsimp only at ho
  split at ho
  · rename_i i r
    split at ho
    · rename_i t N hs
      split at ho
      · rename_i hc
        cases ho
        obtain ⟨ty, hty⟩ : ∃ ty, (pT k)[t]? = some (k t, ty) := by
          match t, hc with
          | 0, _ => exact ⟨_, rfl⟩
          | 1, _ => exact ⟨_, rfl⟩
          | 2, _ => exact ⟨_, rfl⟩
          | 3, _ => exact ⟨_, rfl⟩
          | 4, _ => exact ⟨_, rfl⟩
          | 5, _ => exact ⟨_, rfl⟩
        exact va_alen hx hb hK hJ.1 i t (f_w_get hs) hty rfl hd (hk ls H locs hl hJ)
      · cases ho
    · cases ho
  · cases ho
def i_getI (sh : List f_X) (fl : Nat → Option Nat) (n : Nat) : f_I := fun s => match s.2.1 with
  | .inr (.inr (some i)) :: r => match sh[i]? with
    | some (.inr (ci, ks)) => match fl ci with
      | some j => if ks[j]? = some 0 then some (.inl (n, s.1, .inl (s.2.2.1 i j) :: r, s.2.2)) else none
      | none => none
    | _ => none
  | _ => none
theorem ok_getI {fl : Nat → Option Nat} {idx : Nat} (hd : decode cc pc = .ok (.getfield idx, 3)) (hf : ∀ ci j, fl ci = some j → f_fld own idx T ci j) : f_ok l sh cc nL own T rt rm pc (i_getI sh fl (pc + 3)) := by
  intro p e s m args below meth c Q D k q A hE lo st h ls H locs hl hJ o ho hk
  obtain ⟨hx, hb, hml, hown, hts, hK, hN, hA⟩ := hE
  unfold i_getI at ho
  dsimp only at ho
  split at ho
  · rename_i i r
    split at ho
    · rename_i ci ks hs
      split at ho
      · rename_i j hj
        split at ho
        · rename_i hc
          cases ho
          obtain ⟨C, TT, N, ref, hcl, hin, hjN, hlk, hsm, -⟩ := hf ci j hj
          exact va_get hx hb hts hin hown hK hJ.1 i (f_w_get hs) hcl j hjN (hts _ hlk) (hsm s args hts) (f_fget hc rfl) hd (hk ls H locs hl hJ)
        · cases ho
      · cases ho
    · cases ho
  · cases ho
def i_getL (sh : List f_X) (fl : Nat → Option Nat) (n : Nat) : f_I := fun s => match s.2.1 with
  | .inr (.inr (some i)) :: r => match sh[i]? with
    | some (.inr (ci, ks)) => match fl ci with
      | some j => if ks[j]? = some 1 then some (.inl (n, s.1, .inr (.inl (s.2.2.2.1 i j)) :: r, s.2.2)) else none
      | none => none
    | _ => none
  | _ => none
theorem ok_getL {fl : Nat → Option Nat} {idx : Nat} (hd : decode cc pc = .ok (.getfield idx, 3)) (hf : ∀ ci j, fl ci = some j → f_fld own idx T ci j) : f_ok l sh cc nL own T rt rm pc (i_getL sh fl (pc + 3)) := by
  intro p e s m args below meth c Q D k q A hE lo st h ls H locs hl hJ o ho hk
  obtain ⟨hx, hb, hml, hown, hts, hK, hN, hA⟩ := hE
  unfold i_getL at ho
  dsimp only at ho
  split at ho
  · rename_i i r
    split at ho
    · rename_i ci ks hs
      split at ho
      · rename_i j hj
        split at ho
        · rename_i hc
          cases ho
          obtain ⟨C, TT, N, ref, hcl, hin, hjN, hlk, hsm, -⟩ := hf ci j hj
          exact va_get hx hb hts hin hown hK hJ.1 i (f_w_get hs) hcl j hjN (hts _ hlk) (hsm s args hts) (f_fget hc rfl) hd (hk ls H locs hl hJ)
        · cases ho
      · cases ho
    · cases ho
  · cases ho
def i_getR (sh : List f_X) (fl : Nat → Option Nat) (n : Nat) : f_I := fun s => match s.2.1 with
  | .inr (.inr (some i)) :: r => match sh[i]? with
    | some (.inr (ci, ks)) => match fl ci with
      | some j => if ks[j]? = some 2 then some (.inl (n, s.1, .inr (.inr (s.2.2.2.2 i j)) :: r, s.2.2)) else none
      | none => none
    | _ => none
  | _ => none
theorem ok_getR {fl : Nat → Option Nat} {idx : Nat} (hd : decode cc pc = .ok (.getfield idx, 3)) (hf : ∀ ci j, fl ci = some j → f_fld own idx T ci j) : f_ok l sh cc nL own T rt rm pc (i_getR sh fl (pc + 3)) := by
  intro p e s m args below meth c Q D k q A hE lo st h ls H locs hl hJ o ho hk
  obtain ⟨hx, hb, hml, hown, hts, hK, hN, hA⟩ := hE
  unfold i_getR at ho
  dsimp only at ho
  split at ho
  · rename_i i r
    split at ho
    · rename_i ci ks hs
      split at ho
      · rename_i j hj
        split at ho
        · rename_i hc
          cases ho
          obtain ⟨C, TT, N, ref, hcl, hin, hjN, hlk, hsm, -⟩ := hf ci j hj
          exact va_get hx hb hts hin hown hK hJ.1 i (f_w_get hs) hcl j hjN (hts _ hlk) (hsm s args hts) (f_fget hc rfl) hd (hk ls H locs hl hJ)
        · cases ho
      · cases ho
    · cases ho
  · cases ho
end F2
