-- a call out of the law: one world of two, any number of cells made before
section LW
variable {p : Program} {l : Launch} {e : Env} {R : Room} {s : State} {m : MethodId} {args : Array Value} {below : List Frame} {meth : Method} {c : Code} {H : Heap} {locs : List Loc} {cells slots : Nat} {Q : State → Prop}
theorem f_in1 {A : Nat → Prop} {w1 w2 : va_W} (hA : ∀ q : Nat, s.heap.size ≤ q → A q) (hD : va_D A (w1 ++ w2)) (hS : va_S A s.heap H locs) : ∀ q0, va_A w1 H.size q0 → A q0 := fun q0 h0 => by
  rcases h0 with ⟨j, e0, hj⟩ | h0
  · exact (f_D1 hD).2 j _ hj
  · exact hA q0 (Nat.le_trans hS.1 h0)
theorem f_lawW {D : va_G} {k : Nat → ClassId} {q : Nat → Nat} {A : Nat → Prop} {sh : List f_X} {h h' : f_H} {w2 : va_W} {v : Option Value} {a : Array Value} {pc : Nat} {ls : Array Slot} {rest st0 : List Value} (hA : ∀ q : Nat, s.heap.size ≤ q → A q) (hP : va_P D vwCl (f_w sh k q h ++ w2) H) (hD : va_D A (f_w sh k q h ++ w2)) (hS : va_S A s.heap H locs)
    (hr : va_Run p l e R s m args below meth c H locs cells slots 0 0 (F0 m pc ls st0) rest (f_Q D (f_w sh k q h) H.size (f_w sh k q h') v a) (va_A (f_w sh k q h) H.size))
    (kk : ∀ (H1 : Heap) (locs1 : List Loc), va_P D vwCl (f_w sh k q h' ++ w2) H1 → va_D A (f_w sh k q h' ++ w2) → va_S A s.heap H1 locs1 → W p l e R s m args below meth c H1 locs1 cells slots Q (F0 m (pc + 3) ls (v.toList ++ rest))) : W p l e R s m args below meth c H locs cells slots Q (F0 m pc ls st0) := by
  intro T hT X
  have hF := f_in1 hA hD hS
  obtain ⟨v1, st₀, t, T', L, h0, X', hL, e1, e2, ⟨⟨hv, hP1, hD1⟩, hz, hk⟩, st⟩ := hr T hT X
  cases hv
  rw [h0] at hz hk
  rw [← e1] at hP1 hz hk
  obtain ⟨g1, g2⟩ := f_join (H1 := T'.heap) hP hD hk hP1 hD1 hF
  obtain ⟨t2, a1, b1⟩ := kk T'.heap (locs ++ L) g1 g2 ⟨Nat.le_trans hS.1 hz, fun q1 h1 h2 => by rw [hk q1 (Nat.lt_of_lt_of_le h1 hS.1) (fun z => h2 (hF q1 z))]; exact hS.2.1 q1 h1 h2, fun q1 hq => by
      rcases List.mem_append.mp hq with h | h
      · exact hS.2.2 q1 h
      · exact hF _ (hL q1 h)⟩ T' rfl X'
  exact ⟨t2, st t2 a1, b1⟩
-- what a call out of the law starts from
theorem f_lpre {D : va_G} {k : Nat → ClassId} {q : Nat → Nat} {A : Nat → Prop} {sh : List f_X} {h : f_H} {w2 : va_W} {av : List Value} (hK : va_K D vwCl (pT k) s) (hN : fN q A s s.heap) (hP : va_P D vwCl (f_w sh k q h ++ w2) H) (hD : va_D A (f_w sh k q h ++ w2)) (hS : va_S A s.heap H locs) (hA : ∀ q : Nat, s.heap.size ≤ q → A q) : PreS s H (va_Pc av (f_Pre D k q (f_w sh k q h) H.size)) av := f_preS hK hN ⟨f_P1 hP, f_D1 hD, hS⟩ hA
end LW
