-- a run's end, however long it takes
theorem f_run_mono {code : Nat → Option f_I} {z : f_R} : ∀ (n k : Nat) (s : Nat × f_S), f_run code n s = some z → f_run code (n + k) s = some z
  | 0, _, _, h => by cases h
  | n + 1, k, s, h => by
    rw [Nat.succ_add]
    unfold f_run at h ⊢
    split at h
    · cases h
    · rename_i f hf
      (try rw [hf]); (try dsimp only)
      split at h
      · cases h
      · rename_i s' hs
        (try rw [hs])
        exact f_run_mono n k s' h
      · rename_i r hr
        (try rw [hr])
        exact h
theorem f_run_one {code : Nat → Option f_I} {n k : Nat} {s : Nat × f_S} {z w : f_R} (h1 : f_run code n s = some z) (h2 : f_run code k s = some w) : z = w := by
  have a := f_run_mono n k s h1
  have b := f_run_mono k n s h2
  rw [Nat.add_comm k n, a] at b
  exact Option.some.inj b
noncomputable def f_fix (code : Nat → Option f_I) (s : Nat × f_S) : Option f_R := @dite (Option f_R) (∃ z : f_R, ∃ n, f_run code n s = some z) (Classical.propDecidable _) (fun h => some (Classical.choose h)) (fun _ => none)
theorem f_fix_of {code : Nat → Option f_I} {s : Nat × f_S} {n : Nat} {z : f_R} (h : f_run code n s = some z) : f_fix code s = some z := by
  unfold f_fix
  have hx : ∃ z : f_R, ∃ n, f_run code n s = some z := ⟨z, n, h⟩
  rw [dif_pos hx]
  obtain ⟨k, hk⟩ := Classical.choose_spec hx
  rw [f_run_one hk h]
theorem f_fix_to {code : Nat → Option f_I} {s : Nat × f_S} {z : f_R} (h : f_fix code s = some z) : ∃ n, f_run code n s = some z := by
  unfold f_fix at h
  split at h
  · rename_i hx
    obtain ⟨k, hk⟩ := Classical.choose_spec hx
    rw [Option.some.inj h] at hk
    exact ⟨k, hk⟩
  · cases h
-- a method: its name, its bytes, its locals, what it answers, its instructions over the calls
abbrev f_T : Type := MethodName × ByteArray × Nat × Option FieldType × (f_C → List (Nat × f_I))
def f_code (tb : List (Nat × f_I)) : Nat → Option f_I := fun pc => tb.lookup pc
noncomputable def f_ev (mt : Nat → Option f_T) : Nat → f_C
  | 0 => fun _ _ _ => none
  | d + 1 => fun m as h => match mt m with
    | none => none
    | some t => if (f_args as).length ≤ t.2.2.1 then f_fix (f_code (t.2.2.2.2 (f_ev mt d))) (0, f_lo as t.2.2.1, [], h) else none
def f_room (d : Nat) : Room := { frames := d, cells := 0, slots := 0, locals := 80 * d }
theorem f_lk {pc : Nat} {f : f_I} : ∀ {tb : List (Nat × f_I)}, f_code tb pc = some f → (pc, f) ∈ tb
  | [], h => by cases h
  | (a, g) :: tb, h => by
    unfold f_code at h
    by_cases e : pc = a
    · subst e
      rw [List.lookup_cons_self] at h
      cases h
      exact List.mem_cons_self
    · have e2 : (pc == a) = false := by rw [beq_eq_false_iff_ne]; exact e
      rw [List.lookup_cons, e2] at h
      exact List.mem_cons_of_mem _ (f_lk h)
def f_rtok (rt : Option FieldType) : Prop := rt = none ∨ rt = some .int ∨ rt = some .boolean ∨ rt = some .long ∨ ∃ C, rt = some (.object C)
def f_retok (cc : ByteArray) (rt : Option FieldType) : Prop := ∀ (pc : Nat) (r : Option f_V), f_ret cc rt pc r → (r = none ↔ rt = none) ∧ (∀ x, r = some (.inr (.inl x)) → rt = some .long) ∧ ∀ x, r = some (.inr (.inr x)) → ∃ C, rt = some (.object C)
def f_cfok (l : Launch) (sh : List f_X) (T : List Cond) (mt : Nat → Option f_T) (d : Nat) (cf : f_C) : Prop := ∀ (m : Nat) (t : f_T) (as : List f_V) (h : f_H) (z : f_R), mt m = some t → cf m as h = some z → f_M l sh T t.1 t.2.1 t.2.2.1 t.2.2.2.1 (f_room d) as h z.1 z.2
def f_mok (l : Launch) (sh : List f_X) (T : List Cond) (mt : Nat → Option f_T) (t : f_T) : Prop := plainName t.1.cls = true ∧ f_rtok t.2.2.2.1 ∧ f_retok t.2.1 t.2.2.2.1 ∧ ∀ (d : Nat) (cf : f_C), f_cfok l sh T mt d cf → ∀ x ∈ t.2.2.2.2 cf, f_ok l sh t.2.1 t.2.2.1 t.1.cls (Cond.code t.1 t.2.1 t.2.2.1 t.2.2.2.1 :: T) t.2.2.2.1 (f_room (d + 1)) x.1 x.2
theorem f_ev_ok {l : Launch} {sh : List f_X} {T : List Cond} {mt : Nat → Option f_T} (hmt : ∀ m t, mt m = some t → f_mok l sh T mt t) : ∀ d, f_cfok l sh T mt d (f_ev mt d)
  | 0 => fun m t as h z ht hz => by cases hz
  | d + 1 => fun m t as h z ht hz => by
    have ih := f_ev_ok hmt d
    unfold f_ev at hz
    rw [ht] at hz
    dsimp only at hz
    split at hz
    · rename_i hlen
      obtain ⟨n, hn⟩ := f_fix_to hz
      obtain ⟨h1, h2, h3, h4⟩ := hmt m t ht
      exact f_met h1 h2 (code := f_code (t.2.2.2.2 (f_ev mt d))) (fun pc f hf => h4 d _ ih _ (f_lk hf)) h3 hlen hn
    · cases hz
