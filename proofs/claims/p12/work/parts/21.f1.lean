/-! a small machine: the instructions of the claim's methods as functions on locals, stack and cells by their places; f_run runs a method; f_ok says that the large machine does what an instruction says -/
abbrev f_V : Type := Int32 ⊕ Int64 ⊕ Option Nat
abbrev f_H : Type := (Nat → Nat → Int32) × (Nat → Nat → Int64) × (Nat → Nat → Option Nat)
abbrev f_S : Type := List (Option f_V) × List f_V × f_H
abbrev f_R : Type := Option f_V × f_H
abbrev f_O : Type := (Nat × f_S) ⊕ f_R
abbrev f_I : Type := f_S → Option f_O
abbrev f_C : Type := Nat → List f_V → f_H → Option f_R
-- the shape of a cell: an array (its kind, its length), an object (its class, its fields' kinds: 0 int, 1 long, 2 reference)
abbrev f_X : Type := (Nat × Nat) ⊕ (Nat × List Nat)
def f_v (q : Nat → Nat) (x : f_V) : Value := match x with
  | .inl x => .int x
  | .inr (.inl x) => .long x
  | .inr (.inr r) => va_rf (r.map q)
def f_cat (x : f_V) : Nat := match x with
  | .inr (.inl _) => 2
  | _ => 1
theorem f_cat_eq (q : Nat → Nat) (x : f_V) : (f_v q x).category = f_cat x := by
  rcases x with x | x | x
  · rfl
  · rfl
  · cases x <;> rfl
-- the cells
def f_a (q : Nat → Nat) (h : f_H) (i t : Nat) : (Nat → Int32) ⊕ (Nat → Int64) ⊕ (Nat → UInt32) ⊕ (Nat → UInt64) ⊕ (Nat → Option Nat) :=
  if t = 2 then .inr (.inl (h.2.1 i)) else if t < 4 then .inl (h.1 i) else .inr (.inr (.inr (.inr (fun j => (h.2.2 i j).map q))))
def f_f (q : Nat → Nat) (h : f_H) (i j kd : Nat) : Value := if kd = 0 then .int (h.1 i j) else if kd = 1 then .long (h.2.1 i j) else va_rf ((h.2.2 i j).map q)
def f_e (k : Nat → ClassId) (q : Nat → Nat) (h : f_H) (i : Nat) (x : f_X) : va_E := match x with
  | .inl a => .inl (k a.1, a.2, f_a q h i a.1)
  | .inr o => .inr (o.1, o.2.mapIdx (fun j kd => f_f q h i j kd))
def f_w (sh : List f_X) (k : Nat → ClassId) (q : Nat → Nat) (h : f_H) : va_W := sh.mapIdx (fun i x => (q i, f_e k q h i x))
theorem f_w_get {sh : List f_X} {k : Nat → ClassId} {q : Nat → Nat} {h : f_H} {i : Nat} {x : f_X} (hi : sh[i]? = some x) : (f_w sh k q h)[i]? = some (q i, f_e k q h i x) := by
  simp [f_w, hi]
theorem f_w_set {sh : List f_X} {k : Nat → ClassId} {q : Nat → Nat} {h h' : f_H} {i : Nat} {x : f_X} {E : va_E} (hi : sh[i]? = some x) (hE : E = f_e k q h' i x) (ho : ∀ (a : Nat) (y : f_X), a ≠ i → f_e k q h' a y = f_e k q h a y) : (f_w sh k q h).set i (q i, E) = f_w sh k q h' := by
  apply List.ext_getElem?
  intro a
  by_cases e : a = i
  · subst e
    have hlt : a < (f_w sh k q h).length := by
      have := (List.getElem?_eq_some_iff.mp (f_w_get (k := k) (q := q) (h := h) hi)).1
      exact this
    rw [List.getElem?_set_self hlt, f_w_get hi, hE]
  · rw [List.getElem?_set_ne (fun z => e z.symm)]
    cases hx : sh[a]? with
    | none => simp [f_w, hx]
    | some y => rw [f_w_get hx, f_w_get hx, ho a y e]
-- writing
def f_uI (h : f_H) (i j : Nat) (x : Int32) : f_H := (fun a => if a = i then upd (h.1 i) j x else h.1 a, h.2.1, h.2.2)
def f_uL (h : f_H) (i j : Nat) (x : Int64) : f_H := (h.1, fun a => if a = i then vp_updL (h.2.1 i) j x else h.2.1 a, h.2.2)
def f_uR (h : f_H) (i j : Nat) (x : Option Nat) : f_H := (h.1, h.2.1, fun a => if a = i then va_up (h.2.2 i) j x else h.2.2 a)
def f_uF (h : f_H) (i : Nat) (g : Nat → Int32) : f_H := (fun a => if a = i then g else h.1 a, h.2.1, h.2.2)
theorem f_other {k : Nat → ClassId} {q : Nat → Nat} {h h' : f_H} {a : Nat} {y : f_X} (h1 : h'.1 a = h.1 a) (h2 : h'.2.1 a = h.2.1 a) (h3 : h'.2.2 a = h.2.2 a) : f_e k q h' a y = f_e k q h a y := by
  rcases y with ⟨t, n⟩ | ⟨ci, ks⟩
  · simp only [f_e, f_a, h1, h2, h3]
  · simp only [f_e, f_f, h1, h2, h3]
theorem f_wI {sh : List f_X} {k : Nat → ClassId} {q : Nat → Nat} {h : f_H} {i t n : Nat} (hi : sh[i]? = some (.inl (t, n))) (h2 : t ≠ 2) (h4 : t < 4) (g : Nat → Int32) : (f_w sh k q h).set i (q i, .inl (k t, n, .inl g)) = f_w sh k q (f_uF h i g) := by
  refine f_w_set hi ?_ (fun a y e => f_other (by simp [f_uF, e]) rfl rfl)
  simp [f_e, f_a, h2, h4, f_uF]
theorem f_uI_F (h : f_H) (i j : Nat) (x : Int32) : f_uF h i (upd (h.1 i) j x) = f_uI h i j x := rfl
theorem f_wL {sh : List f_X} {k : Nat → ClassId} {q : Nat → Nat} {h : f_H} {i n j : Nat} {x : Int64} (hi : sh[i]? = some (.inl (2, n))) : (f_w sh k q h).set i (q i, .inl (k 2, n, .inr (.inl (vp_updL (h.2.1 i) j x)))) = f_w sh k q (f_uL h i j x) := by
  refine f_w_set hi ?_ (fun a y e => f_other rfl (by simp [f_uL, e]) rfl)
  simp [f_e, f_a, f_uL]
theorem f_fs_set {q : Nat → Nat} {h h' : f_H} {i j : Nat} {ks : List Nat} {kd : Nat} {v : Value} (hj : ks[j]? = some kd) (hv : v = f_f q h' i j kd) (ho : ∀ (b kd : Nat), b ≠ j → f_f q h' i b kd = f_f q h i b kd) : (ks.mapIdx (fun j kd => f_f q h i j kd)).set j v = ks.mapIdx (fun j kd => f_f q h' i j kd) := by
  apply List.ext_getElem?
  intro b
  by_cases e : b = j
  · subst e
    have hlt : b < (ks.mapIdx (fun j kd => f_f q h i j kd)).length := by
      rw [List.length_mapIdx]; exact (List.getElem?_eq_some_iff.mp hj).1
    rw [List.getElem?_set_self hlt, List.getElem?_mapIdx, hj, hv]; rfl
  · rw [List.getElem?_set_ne (fun z => e z.symm), List.getElem?_mapIdx, List.getElem?_mapIdx]
    cases ks[b]? with
    | none => rfl
    | some z => simp [ho b z e]
theorem f_wO {sh : List f_X} {k : Nat → ClassId} {q : Nat → Nat} {h h' : f_H} {i ci j kd : Nat} {ks : List Nat} {v : Value} (hi : sh[i]? = some (.inr (ci, ks))) (hj : ks[j]? = some kd) (hv : v = f_f q h' i j kd) (ho : ∀ (b kd : Nat), b ≠ j → f_f q h' i b kd = f_f q h i b kd) (hoo : ∀ a, a ≠ i → h'.1 a = h.1 a ∧ h'.2.1 a = h.2.1 a ∧ h'.2.2 a = h.2.2 a) :
    (f_w sh k q h).set i (q i, .inr (ci, (ks.mapIdx (fun j kd => f_f q h i j kd)).set j v)) = f_w sh k q h' := by
  refine f_w_set hi ?_ (fun a y e => f_other (hoo a e).1 (hoo a e).2.1 (hoo a e).2.2)
  show (Sum.inr (ci, _) : va_E) = .inr (ci, _)
  rw [f_fs_set hj hv ho]
-- the locals
def f_L (q : Nat → Nat) (ls : Array Slot) (nL : Nat) (lo : List (Option f_V)) : Prop := ls.size = nL ∧ lv_wf ls ∧ ∀ (i : Nat) (x : f_V), lo[i]? = some (some x) → ls[i]? = some (.val (f_v q x))
def f_lv (q : Nat → Nat) (lo : List (Option f_V)) : List (Nat × Value) := (List.range lo.length).filterMap (fun i => (lo[i]?.join).map (fun x => (i, f_v q x)))
theorem f_lv_mem {q : Nat → Nat} {lo : List (Option f_V)} {i : Nat} {v : Value} : (i, v) ∈ f_lv q lo ↔ ∃ x, lo[i]? = some (some x) ∧ v = f_v q x := by
  unfold f_lv
  rw [List.mem_filterMap]
  constructor
  · rintro ⟨j, -, hj⟩
    cases hx : lo[j]? with
    | none => simp [hx] at hj
    | some o =>
      cases o with
      | none => simp [hx] at hj
      | some x =>
        simp [hx] at hj
        obtain ⟨rfl, rfl⟩ := hj
        exact ⟨x, hx, rfl⟩
  · rintro ⟨x, hx, rfl⟩
    exact ⟨i, List.mem_range.mpr (List.getElem?_eq_some_iff.mp hx).1, by simp [hx]⟩
theorem f_L.has {q : Nat → Nat} {ls : Array Slot} {nL : Nat} {lo : List (Option f_V)} (h : f_L q ls nL lo) : lv_has ls nL (f_lv q lo) := ⟨h.1, h.2.1, fun p hp => by
  obtain ⟨i, v⟩ := p
  obtain ⟨x, hx, rfl⟩ := f_lv_mem.mp hp
  exact h.2.2 i x hx⟩
theorem f_L.of {q : Nat → Nat} {ls : Array Slot} {nL : Nat} {lo : List (Option f_V)} {l : List (Nat × Value)} (h : lv_has ls nL l) (hl : ∀ (i : Nat) (x : f_V), lo[i]? = some (some x) → (i, f_v q x) ∈ l) : f_L q ls nL lo := ⟨h.1, h.2.1, fun i x hx => h.2.2 _ (hl i x hx)⟩
-- storing a value of one slot, of two
def f_long (x : Option f_V) : Bool := match x with
  | some (.inr (.inl _)) => true
  | _ => false
def f_un (lo : List (Option f_V)) (i : Nat) : List (Option f_V) := match i with
  | 0 => lo
  | j + 1 => if f_long (lo.getD j none) then lo.set j none else lo
def f_s1 (lo : List (Option f_V)) (i : Nat) (v : f_V) : List (Option f_V) := (f_un lo i).set i (some v)
def f_s2 (lo : List (Option f_V)) (i : Nat) (v : f_V) : List (Option f_V) := ((f_un lo i).set i (some v)).set (i + 1) none
theorem f_un_get {lo : List (Option f_V)} {i b : Nat} {x : f_V} (h : (f_un lo i)[b]? = some (some x)) : lo[b]? = some (some x) ∧ ¬ (b + 1 = i ∧ f_cat x = 2) := by
  cases i with
  | zero => exact ⟨h, by omega⟩
  | succ j =>
    unfold f_un at h
    dsimp only at h
    by_cases hl : f_long (lo.getD j none) = true
    · rw [if_pos hl] at h
      by_cases e : j = b
      · subst e
        rw [List.getElem?_set] at h
        split at h
        · split at h
          · cases h
          · cases h
        · exact absurd rfl ‹_›
      · rw [List.getElem?_set_ne e] at h
        exact ⟨h, by omega⟩
    · rw [if_neg hl] at h
      refine ⟨h, fun hc => ?_⟩
      obtain ⟨e, hc⟩ := hc
      have e2 : b = j := by omega
      subst e2
      apply hl
      rw [List.getD_eq_getElem?_getD, h]
      rcases x with x | x | x
      · simp [f_cat] at hc
      · rfl
      · simp [f_cat] at hc
theorem f_L.s1 {q : Nat → Nat} {ls : Array Slot} {nL i : Nat} {lo : List (Option f_V)} {v : f_V} (h : lv_has ls nL ((i, f_v q v) :: (f_lv q lo).filter (fun p => !(p.1 == i) && !(p.1 + 1 == i && p.2.category == 2)))) : f_L q ls nL (f_s1 lo i v) := by
  refine f_L.of h (fun b x hx => ?_)
  unfold f_s1 at hx
  by_cases e : i = b
  · subst e
    rw [List.getElem?_set] at hx
    simp only [if_true] at hx
    split at hx
    · cases hx
      exact List.mem_cons_self
    · cases hx
  · rw [List.getElem?_set_ne e] at hx
    obtain ⟨h1, h2⟩ := f_un_get hx
    refine List.mem_cons_of_mem _ (List.mem_filter.mpr ⟨f_lv_mem.mpr ⟨x, h1, rfl⟩, ?_⟩)
    rw [f_cat_eq]
    simp only [Bool.and_eq_true, Bool.not_eq_true', beq_eq_false_iff_ne, Bool.and_eq_false_imp, beq_iff_eq]
    refine ⟨fun z => e z.symm, fun z => ?_⟩
    intro z2
    exact h2 ⟨z, z2⟩
theorem f_L.s2 {q : Nat → Nat} {ls : Array Slot} {nL i : Nat} {lo : List (Option f_V)} {v : f_V} (h : lv_has ls nL ((i, f_v q v) :: (f_lv q lo).filter (fun p => !(p.1 == i) && (!(p.1 == i + 1) && !(p.1 + 1 == i && p.2.category == 2))))) : f_L q ls nL (f_s2 lo i v) := by
  refine f_L.of h (fun b x hx => ?_)
  unfold f_s2 at hx
  by_cases e1 : i + 1 = b
  · subst e1
    rw [List.getElem?_set] at hx
    simp only [if_true] at hx
    split at hx
    · cases hx
    · cases hx
  · rw [List.getElem?_set_ne e1] at hx
    by_cases e : i = b
    · subst e
      rw [List.getElem?_set] at hx
      simp only [if_true] at hx
      split at hx
      · cases hx
        exact List.mem_cons_self
      · cases hx
    · rw [List.getElem?_set_ne e] at hx
      obtain ⟨h1, h2⟩ := f_un_get hx
      refine List.mem_cons_of_mem _ (List.mem_filter.mpr ⟨f_lv_mem.mpr ⟨x, h1, rfl⟩, ?_⟩)
      rw [f_cat_eq]
      simp only [Bool.and_eq_true, Bool.not_eq_true', beq_eq_false_iff_ne, Bool.and_eq_false_imp, beq_iff_eq]
      refine ⟨fun z => e z.symm, fun z => e1 z.symm, fun z => ?_⟩
      intro z2
      exact h2 ⟨z, z2⟩
