-- partial rows: whatever the run comes to within fu steps, Q holds of it
def f_pq (code : Nat → Option f_I) (fu : Nat) (s : Nat × f_S) (Q : Option f_V → f_H → Prop) : Prop := ∀ (m : Nat) (z : f_R), m ≤ fu → f_run code m s = some z → Q z.1 z.2
def f_pc (mt : Nat → Option f_T) (d m : Nat) (as : List f_V) (h : f_H) (Q : Option f_V → f_H → Prop) : Prop := ∀ z : f_R, f_ev mt d m as h = some z → Q z.1 z.2
theorem pq_0 {code : Nat → Option f_I} {s : Nat × f_S} {Q : Option f_V → f_H → Prop} : f_pq code 0 s Q := fun m z hm hz => by
  cases m with
  | zero => cases hz
  | succ m => omega
theorem pq_le {code : Nat → Option f_I} {s : Nat × f_S} {Q : Option f_V → f_H → Prop} {f0 f1 : Nat} (h : f0 ≤ f1) (w : f_pq code f1 s Q) : f_pq code f0 s Q := fun m z hm hz => w m z (by omega) hz
section Q0
variable {code : Nat → Option f_I} {fu pc : Nat} {f : f_I} {lo : List (Option f_V)} {st : List f_V} {h : f_H} {s' : Nat × f_S} {Q : Option f_V → f_H → Prop}
theorem pq_s (hc : code pc = some f) (hs : f (lo, st, h) = some (.inl s')) (w : f_pq code fu s' Q) : f_pq code fu (pc, lo, st, h) Q := fun m z hm hz => by
  cases m with
  | zero => cases hz
  | succ m =>
    have hz : (match code pc with | none => none | some f => match f (lo, st, h) with | none => none | some (.inl s') => f_run code m s' | some (.inr r) => some r) = some z := hz
    rw [hc] at hz
    (try dsimp only at hz)
    rw [hs] at hz
    exact w m z (by omega) hz
theorem pq_sD (hc : code pc = some f) (hs : f (lo, st, h) = some (.inl s')) (w : f_pq code fu s' Q) : f_pq code (fu + 1) (pc, lo, st, h) Q := fun m z hm hz => by
  cases m with
  | zero => cases hz
  | succ m =>
    have hz : (match code pc with | none => none | some f => match f (lo, st, h) with | none => none | some (.inl s') => f_run code m s' | some (.inr r) => some r) = some z := hz
    rw [hc] at hz
    (try dsimp only at hz)
    rw [hs] at hz
    exact w m z (by omega) hz
theorem pq_r {z0 : f_R} (hc : code pc = some f) (hs : f (lo, st, h) = some (.inr z0)) (hq : Q z0.1 z0.2) : f_pq code fu (pc, lo, st, h) Q := fun m z hm hz => by
  cases m with
  | zero => cases hz
  | succ m =>
    have hz : (match code pc with | none => none | some f => match f (lo, st, h) with | none => none | some (.inl s') => f_run code m s' | some (.inr r) => some r) = some z := hz
    rw [hc] at hz
    (try dsimp only at hz)
    rw [hs] at hz
    cases hz
    exact hq
theorem pq_none (hc : code pc = some f) (hs : f (lo, st, h) = none) : f_pq code fu (pc, lo, st, h) Q := fun m z hm hz => by
  cases m with
  | zero => cases hz
  | succ m =>
    have hz : (match code pc with | none => none | some f => match f (lo, st, h) with | none => none | some (.inl s') => f_run code m s' | some (.inr r) => some r) = some z := hz
    rw [hc] at hz
    (try dsimp only at hz)
    rw [hs] at hz
    cases hz
theorem qw_gotoD {t : Nat} (hc : code pc = some (i_goto t)) (w : f_pq code fu (t, lo, st, h) Q) : f_pq code (fu + 1) (pc, lo, st, h) Q := pq_sD hc rfl w
end Q0
theorem f_pc_of {mt : Nat → Option f_T} {d m nL : Nat} {y : MethodName} {cc : ByteArray} {rt : Option FieldType} {tb : f_C → List (Nat × f_I)} {as : List f_V} {h : f_H} {Q : Option f_V → f_H → Prop} (hm : mt m = some (y, cc, nL, rt, tb)) (w : ∀ d0 fu, d = d0 + 1 → f_pq (f_code (tb (f_ev mt d0))) fu (0, f_lo as nL, [], h) Q) : f_pc mt d m as h Q := fun z hz => by
  cases d with
  | zero => cases hz
  | succ d =>
    unfold f_ev at hz
    rw [hm] at hz
    dsimp only at hz
    split at hz
    · obtain ⟨n, hn⟩ := f_fix_to hz
      exact w d n rfl n z (Nat.le_refl _) hn
    · cases hz
-- a row that ends and a partial one: both hold
theorem f_call.pc {mt : Nat → Option f_T} {d0 m : Nat} {as : List f_V} {h : f_H} {Q Q' : Option f_V → f_H → Prop} (w : f_call mt d0 m as h Q) (p : ∀ d, f_pc mt d m as h Q') : f_call mt d0 m as h (fun r h' => Q r h' ∧ Q' r h') := fun d hd => by
  obtain ⟨z, hz, hq⟩ := w d hd
  exact ⟨z, hz, hq, p d z hz⟩
theorem f_pc.mono {mt : Nat → Option f_T} {d m : Nat} {as : List f_V} {h : f_H} {Q Q' : Option f_V → f_H → Prop} (w : f_pc mt d m as h Q) (hq : ∀ r h, Q r h → Q' r h) : f_pc mt d m as h Q' := fun z hz => hq _ _ (w z hz)
theorem f_inb2 {j : Int32} {N : Nat} (h : 0 ≤ j ∧ j.toNatClampNeg < N) : 0 ≤ j.toInt ∧ j.toInt < N := by
  have h1 : 0 ≤ j.toInt := by rw [← show (0 : Int32).toInt = 0 from rfl]; exact Int32.le_iff_toInt_le.mp h.1
  refine ⟨h1, ?_⟩
  have h2 : j.toInt.toNat < N := h.2
  omega
section Q1
variable {code : Nat → Option f_I} {pc : Nat} {f : f_I} {lo : List (Option f_V)} {st r : List f_V} {h : f_H} {s s' : Nat × f_S} {Q : Option f_V → f_H → Prop} {t n : Nat} {sh : List f_X} {fu : Nat}
theorem qwp_if_eq {x : Int32} (hc : code pc = some (i_if_eq t n)) (h1 : x = 0 → f_pq code fu (t, lo, r, h) Q) (h2 : ¬ x = 0 → f_pq code fu (n, lo, r, h) Q) : f_pq code fu (pc, lo, .inl x :: r, h) Q := by
  by_cases hh : x = 0
  · exact pq_s hc (if_pos hh) (h1 hh)
  · exact pq_s hc (if_neg hh) (h2 hh)
theorem qwp_if_ne {x : Int32} (hc : code pc = some (i_if_ne t n)) (h1 : x = 0 → f_pq code fu (n, lo, r, h) Q) (h2 : ¬ x = 0 → f_pq code fu (t, lo, r, h) Q) : f_pq code fu (pc, lo, .inl x :: r, h) Q := by
  by_cases hh : x = 0
  · exact pq_s hc (if_pos hh) (h1 hh)
  · exact pq_s hc (if_neg hh) (h2 hh)
theorem qwp_if_lt {x : Int32} (hc : code pc = some (i_if_lt t n)) (h1 : x < 0 → f_pq code fu (t, lo, r, h) Q) (h2 : ¬ x < 0 → f_pq code fu (n, lo, r, h) Q) : f_pq code fu (pc, lo, .inl x :: r, h) Q := by
  by_cases hh : x < 0
  · exact pq_s hc (if_pos hh) (h1 hh)
  · exact pq_s hc (if_neg hh) (h2 hh)
theorem qwp_if_ge {x : Int32} (hc : code pc = some (i_if_ge t n)) (h1 : 0 ≤ x → f_pq code fu (t, lo, r, h) Q) (h2 : ¬ 0 ≤ x → f_pq code fu (n, lo, r, h) Q) : f_pq code fu (pc, lo, .inl x :: r, h) Q := by
  by_cases hh : 0 ≤ x
  · exact pq_s hc (if_pos hh) (h1 hh)
  · exact pq_s hc (if_neg hh) (h2 hh)
theorem qwp_if_gt {x : Int32} (hc : code pc = some (i_if_gt t n)) (h1 : 0 < x → f_pq code fu (t, lo, r, h) Q) (h2 : ¬ 0 < x → f_pq code fu (n, lo, r, h) Q) : f_pq code fu (pc, lo, .inl x :: r, h) Q := by
  by_cases hh : 0 < x
  · exact pq_s hc (if_pos hh) (h1 hh)
  · exact pq_s hc (if_neg hh) (h2 hh)
theorem qwp_if_le {x : Int32} (hc : code pc = some (i_if_le t n)) (h1 : x ≤ 0 → f_pq code fu (t, lo, r, h) Q) (h2 : ¬ x ≤ 0 → f_pq code fu (n, lo, r, h) Q) : f_pq code fu (pc, lo, .inl x :: r, h) Q := by
  by_cases hh : x ≤ 0
  · exact pq_s hc (if_pos hh) (h1 hh)
  · exact pq_s hc (if_neg hh) (h2 hh)
theorem qwp_ic_eq {x y : Int32} (hc : code pc = some (i_ic_eq t n)) (h1 : x = y → f_pq code fu (t, lo, r, h) Q) (h2 : ¬ x = y → f_pq code fu (n, lo, r, h) Q) : f_pq code fu (pc, lo, .inl y :: .inl x :: r, h) Q := by
  by_cases hh : x = y
  · exact pq_s hc (if_pos hh) (h1 hh)
  · exact pq_s hc (if_neg hh) (h2 hh)
theorem qwp_ic_ne {x y : Int32} (hc : code pc = some (i_ic_ne t n)) (h1 : x = y → f_pq code fu (n, lo, r, h) Q) (h2 : ¬ x = y → f_pq code fu (t, lo, r, h) Q) : f_pq code fu (pc, lo, .inl y :: .inl x :: r, h) Q := by
  by_cases hh : x = y
  · exact pq_s hc (if_pos hh) (h1 hh)
  · exact pq_s hc (if_neg hh) (h2 hh)
theorem qwp_ic_lt {x y : Int32} (hc : code pc = some (i_ic_lt t n)) (h1 : x < y → f_pq code fu (t, lo, r, h) Q) (h2 : ¬ x < y → f_pq code fu (n, lo, r, h) Q) : f_pq code fu (pc, lo, .inl y :: .inl x :: r, h) Q := by
  by_cases hh : x < y
  · exact pq_s hc (if_pos hh) (h1 hh)
  · exact pq_s hc (if_neg hh) (h2 hh)
theorem qwp_ic_ge {x y : Int32} (hc : code pc = some (i_ic_ge t n)) (h1 : y ≤ x → f_pq code fu (t, lo, r, h) Q) (h2 : ¬ y ≤ x → f_pq code fu (n, lo, r, h) Q) : f_pq code fu (pc, lo, .inl y :: .inl x :: r, h) Q := by
  by_cases hh : y ≤ x
  · exact pq_s hc (if_pos hh) (h1 hh)
  · exact pq_s hc (if_neg hh) (h2 hh)
theorem qwp_ic_gt {x y : Int32} (hc : code pc = some (i_ic_gt t n)) (h1 : y < x → f_pq code fu (t, lo, r, h) Q) (h2 : ¬ y < x → f_pq code fu (n, lo, r, h) Q) : f_pq code fu (pc, lo, .inl y :: .inl x :: r, h) Q := by
  by_cases hh : y < x
  · exact pq_s hc (if_pos hh) (h1 hh)
  · exact pq_s hc (if_neg hh) (h2 hh)
theorem qwp_ic_le {x y : Int32} (hc : code pc = some (i_ic_le t n)) (h1 : x ≤ y → f_pq code fu (t, lo, r, h) Q) (h2 : ¬ x ≤ y → f_pq code fu (n, lo, r, h) Q) : f_pq code fu (pc, lo, .inl y :: .inl x :: r, h) Q := by
  by_cases hh : x ≤ y
  · exact pq_s hc (if_pos hh) (h1 hh)
  · exact pq_s hc (if_neg hh) (h2 hh)
theorem qwp_iaload {i N : Nat} {j : Int32} (hc : code pc = some (i_iaload sh n)) (hs : sh[i]? = some (.inl (1, N))) (w : 0 ≤ j.toInt ∧ j.toInt < N → f_pq code fu (n, lo, .inl (h.1 i j.toNatClampNeg) :: r, h) Q) : f_pq code fu (pc, lo, .inl j :: .inr (.inr (some i)) :: r, h) Q := by
  by_cases hj : 0 ≤ j.toInt ∧ j.toInt < N
  · refine pq_s hc ?_ (w hj)
    unfold i_iaload
    (try dsimp only)
    rw [hs]
    (try dsimp only)
    exact if_pos (f_inb hj)
  · refine pq_none hc ?_
    unfold i_iaload
    (try dsimp only)
    rw [hs]
    (try dsimp only)
    exact if_neg (fun h9 => hj (f_inb2 h9))
theorem qwp_baload {i N : Nat} {j : Int32} (hc : code pc = some (i_baload sh n)) (hs : sh[i]? = some (.inl (3, N))) (w : 0 ≤ j.toInt ∧ j.toInt < N → f_pq code fu (n, lo, .inl (h.1 i j.toNatClampNeg) :: r, h) Q) : f_pq code fu (pc, lo, .inl j :: .inr (.inr (some i)) :: r, h) Q := by
  by_cases hj : 0 ≤ j.toInt ∧ j.toInt < N
  · refine pq_s hc ?_ (w hj)
    unfold i_baload
    (try dsimp only)
    rw [hs]
    (try dsimp only)
    exact if_pos (f_inb hj)
  · refine pq_none hc ?_
    unfold i_baload
    (try dsimp only)
    rw [hs]
    (try dsimp only)
    exact if_neg (fun h9 => hj (f_inb2 h9))
theorem qwp_caload {i N : Nat} {j : Int32} (hc : code pc = some (i_caload sh n)) (hs : sh[i]? = some (.inl (0, N))) (w : 0 ≤ j.toInt ∧ j.toInt < N → f_pq code fu (n, lo, .inl (h.1 i j.toNatClampNeg) :: r, h) Q) : f_pq code fu (pc, lo, .inl j :: .inr (.inr (some i)) :: r, h) Q := by
  by_cases hj : 0 ≤ j.toInt ∧ j.toInt < N
  · refine pq_s hc ?_ (w hj)
    unfold i_caload
    (try dsimp only)
    rw [hs]
    (try dsimp only)
    exact if_pos (f_inb hj)
  · refine pq_none hc ?_
    unfold i_caload
    (try dsimp only)
    rw [hs]
    (try dsimp only)
    exact if_neg (fun h9 => hj (f_inb2 h9))
theorem qwp_laload {i N : Nat} {j : Int32} (hc : code pc = some (i_laload sh n)) (hs : sh[i]? = some (.inl (2, N))) (w : 0 ≤ j.toInt ∧ j.toInt < N → f_pq code fu (n, lo, .inr (.inl (h.2.1 i j.toNatClampNeg)) :: r, h) Q) : f_pq code fu (pc, lo, .inl j :: .inr (.inr (some i)) :: r, h) Q := by
  by_cases hj : 0 ≤ j.toInt ∧ j.toInt < N
  · refine pq_s hc ?_ (w hj)
    unfold i_laload
    (try dsimp only)
    rw [hs]
    (try dsimp only)
    exact if_pos (f_inb hj)
  · refine pq_none hc ?_
    unfold i_laload
    (try dsimp only)
    rw [hs]
    (try dsimp only)
    exact if_neg (fun h9 => hj (f_inb2 h9))
theorem qwp_aald4 {i N : Nat} {j : Int32} (hc : code pc = some (i_aald4 sh n)) (hs : sh[i]? = some (.inl (4, N))) (w : 0 ≤ j.toInt ∧ j.toInt < N → f_pq code fu (n, lo, .inr (.inr (h.2.2 i j.toNatClampNeg)) :: r, h) Q) : f_pq code fu (pc, lo, .inl j :: .inr (.inr (some i)) :: r, h) Q := by
  by_cases hj : 0 ≤ j.toInt ∧ j.toInt < N
  · refine pq_s hc ?_ (w hj)
    unfold i_aald4
    (try dsimp only)
    rw [hs]
    (try dsimp only)
    exact if_pos (f_inb hj)
  · refine pq_none hc ?_
    unfold i_aald4
    (try dsimp only)
    rw [hs]
    (try dsimp only)
    exact if_neg (fun h9 => hj (f_inb2 h9))
theorem qwp_aald5 {i N : Nat} {j : Int32} (hc : code pc = some (i_aald5 sh n)) (hs : sh[i]? = some (.inl (5, N))) (w : 0 ≤ j.toInt ∧ j.toInt < N → f_pq code fu (n, lo, .inr (.inr (h.2.2 i j.toNatClampNeg)) :: r, h) Q) : f_pq code fu (pc, lo, .inl j :: .inr (.inr (some i)) :: r, h) Q := by
  by_cases hj : 0 ≤ j.toInt ∧ j.toInt < N
  · refine pq_s hc ?_ (w hj)
    unfold i_aald5
    (try dsimp only)
    rw [hs]
    (try dsimp only)
    exact if_pos (f_inb hj)
  · refine pq_none hc ?_
    unfold i_aald5
    (try dsimp only)
    rw [hs]
    (try dsimp only)
    exact if_neg (fun h9 => hj (f_inb2 h9))
theorem qwp_iastore {i N : Nat} {j x : Int32} (hc : code pc = some (i_iastore sh n)) (hs : sh[i]? = some (.inl (1, N))) (w : 0 ≤ j.toInt ∧ j.toInt < N → f_pq code fu (n, lo, r, f_uI h i j.toNatClampNeg x) Q) : f_pq code fu (pc, lo, .inl x :: .inl j :: .inr (.inr (some i)) :: r, h) Q := by
  by_cases hj : 0 ≤ j.toInt ∧ j.toInt < N
  · refine pq_s hc ?_ (w hj)
    unfold i_iastore
    (try dsimp only)
    rw [hs]
    (try dsimp only)
    exact if_pos (f_inb hj)
  · refine pq_none hc ?_
    unfold i_iastore
    (try dsimp only)
    rw [hs]
    (try dsimp only)
    exact if_neg (fun h9 => hj (f_inb2 h9))
theorem qwp_bastore {i N : Nat} {j x : Int32} (hc : code pc = some (i_bastore sh n)) (hs : sh[i]? = some (.inl (3, N))) (w : 0 ≤ j.toInt ∧ j.toInt < N → f_pq code fu (n, lo, r, f_uI h i j.toNatClampNeg (vp_nar .boolean x)) Q) : f_pq code fu (pc, lo, .inl x :: .inl j :: .inr (.inr (some i)) :: r, h) Q := by
  by_cases hj : 0 ≤ j.toInt ∧ j.toInt < N
  · refine pq_s hc ?_ (w hj)
    unfold i_bastore
    (try dsimp only)
    rw [hs]
    (try dsimp only)
    exact if_pos (f_inb hj)
  · refine pq_none hc ?_
    unfold i_bastore
    (try dsimp only)
    rw [hs]
    (try dsimp only)
    exact if_neg (fun h9 => hj (f_inb2 h9))
theorem qwp_castore {i N : Nat} {j x : Int32} (hc : code pc = some (i_castore sh n)) (hs : sh[i]? = some (.inl (0, N))) (w : 0 ≤ j.toInt ∧ j.toInt < N → f_pq code fu (n, lo, r, f_uI h i j.toNatClampNeg (vp_nar .char x)) Q) : f_pq code fu (pc, lo, .inl x :: .inl j :: .inr (.inr (some i)) :: r, h) Q := by
  by_cases hj : 0 ≤ j.toInt ∧ j.toInt < N
  · refine pq_s hc ?_ (w hj)
    unfold i_castore
    (try dsimp only)
    rw [hs]
    (try dsimp only)
    exact if_pos (f_inb hj)
  · refine pq_none hc ?_
    unfold i_castore
    (try dsimp only)
    rw [hs]
    (try dsimp only)
    exact if_neg (fun h9 => hj (f_inb2 h9))
theorem qwp_lastore {i N : Nat} {j : Int32} {x : Int64} (hc : code pc = some (i_lastore sh n)) (hs : sh[i]? = some (.inl (2, N))) (w : 0 ≤ j.toInt ∧ j.toInt < N → f_pq code fu (n, lo, r, f_uL h i j.toNatClampNeg x) Q) : f_pq code fu (pc, lo, .inr (.inl x) :: .inl j :: .inr (.inr (some i)) :: r, h) Q := by
  by_cases hj : 0 ≤ j.toInt ∧ j.toInt < N
  · refine pq_s hc ?_ (w hj)
    unfold i_lastore
    (try dsimp only)
    rw [hs]
    (try dsimp only)
    exact if_pos (f_inb hj)
  · refine pq_none hc ?_
    unfold i_lastore
    (try dsimp only)
    rw [hs]
    (try dsimp only)
    exact if_neg (fun h9 => hj (f_inb2 h9))
theorem qwp_iid {op : Int32 → Int32 → Int32} {x y : Int32} (hc : code pc = some (i_iid op n)) (hy : ¬ y = 0) (w : f_pq code fu (n, lo, .inl (op x y) :: r, h) Q) : f_pq code fu (pc, lo, .inl y :: .inl x :: r, h) Q := pq_s hc (if_neg hy) w
theorem qwp_lld {op : Int64 → Int64 → Int64} {x y : Int64} (hc : code pc = some (i_lld op n)) (hy : ¬ y = 0) (w : f_pq code fu (n, lo, .inr (.inl (op x y)) :: r, h) Q) : f_pq code fu (pc, lo, .inr (.inl y) :: .inr (.inl x) :: r, h) Q := pq_s hc (if_neg hy) w
theorem qwp_iret {z : Bool} {x : Int32} (hc : code pc = some (i_ireturn z)) (hz : z = true → x = 0 ∨ x = 1) (hq : Q (some (.inl x)) h) : f_pq code fu (pc, lo, [.inl x], h) Q := pq_r hc (if_pos hz) hq
end Q1
section Q2
variable {code : Nat → Option f_I} {pc : Nat} {lo : List (Option f_V)} {st r : List f_V} {h : f_H} {Q : Option f_V → f_H → Prop} {t n i : Nat} {sh : List f_X} {fu : Nat}
theorem qw_const {v : f_V} (hc : code pc = some (i_const v n)) (w : f_pq code fu (n, lo, v :: st, h) Q) : f_pq code fu (pc, lo, st, h) Q := pq_s hc rfl w
theorem qw_goto (hc : code pc = some (i_goto t)) (w : f_pq code fu (t, lo, st, h) Q) : f_pq code fu (pc, lo, st, h) Q := pq_s hc rfl w
theorem qw_iload {x : Int32} (hc : code pc = some (i_iload i n)) (hl : lo[i]? = some (some (.inl x))) (w : f_pq code fu (n, lo, .inl x :: st, h) Q) : f_pq code fu (pc, lo, st, h) Q := pq_s hc (by unfold i_iload; dsimp only; rw [hl]) w
theorem qw_istore {x : Int32} {lo' : List (Option f_V)} (hc : code pc = some (i_istore i n)) (hl : f_s1 lo i (.inl x) = lo') (w : f_pq code fu (n, lo', r, h) Q) : f_pq code fu (pc, lo, .inl x :: r, h) Q := pq_s hc (by unfold i_istore; dsimp only; rw [hl]) w
theorem qw_lload {x : Int64} (hc : code pc = some (i_lload i n)) (hl : lo[i]? = some (some (.inr (.inl x)))) (w : f_pq code fu (n, lo, .inr (.inl x) :: st, h) Q) : f_pq code fu (pc, lo, st, h) Q := pq_s hc (by unfold i_lload; dsimp only; rw [hl]) w
theorem qw_lstore {x : Int64} {lo' : List (Option f_V)} (hc : code pc = some (i_lstore i n)) (hl : f_s2 lo i (.inr (.inl x)) = lo') (w : f_pq code fu (n, lo', r, h) Q) : f_pq code fu (pc, lo, .inr (.inl x) :: r, h) Q := pq_s hc (by unfold i_lstore; dsimp only; rw [hl]) w
theorem qw_aload {x : Option Nat} (hc : code pc = some (i_aload i n)) (hl : lo[i]? = some (some (.inr (.inr x)))) (w : f_pq code fu (n, lo, .inr (.inr x) :: st, h) Q) : f_pq code fu (pc, lo, st, h) Q := pq_s hc (by unfold i_aload; dsimp only; rw [hl]) w
theorem qw_astore {x : Option Nat} {lo' : List (Option f_V)} (hc : code pc = some (i_astore i n)) (hl : f_s1 lo i (.inr (.inr x)) = lo') (w : f_pq code fu (n, lo', r, h) Q) : f_pq code fu (pc, lo, .inr (.inr x) :: r, h) Q := pq_s hc (by unfold i_astore; dsimp only; rw [hl]) w
theorem qw_iinc {x d : Int32} {lo' : Int32 → List (Option f_V)} (hc : code pc = some (i_iinc i d n)) (hx : lo[i]? = some (some (.inl x))) (hl : ∀ z, f_s1 lo i (.inl z) = lo' z) (hb : -2147483648 ≤ x.toInt + d.toInt ∧ x.toInt + d.toInt < 2147483648) (w : ∀ z : Int32, z.toInt = x.toInt + d.toInt → f_pq code fu (n, lo' z, st, h) Q) : f_pq code fu (pc, lo, st, h) Q := pq_s hc (by unfold i_iinc; dsimp only; rw [hx]; dsimp only; rw [hl]) (w _ (ti_add hb))
theorem qw_iadd {x y : Int32} (hc : code pc = some (i_ii (fun x y => x + y) n)) (hb : -2147483648 ≤ x.toInt + y.toInt ∧ x.toInt + y.toInt < 2147483648) (w : ∀ z : Int32, z.toInt = x.toInt + y.toInt → f_pq code fu (n, lo, .inl z :: r, h) Q) : f_pq code fu (pc, lo, .inl y :: .inl x :: r, h) Q := pq_s hc rfl (w _ (ti_add hb))
theorem qw_isub {x y : Int32} (hc : code pc = some (i_ii (fun x y => x - y) n)) (hb : -2147483648 ≤ x.toInt - y.toInt ∧ x.toInt - y.toInt < 2147483648) (w : ∀ z : Int32, z.toInt = x.toInt - y.toInt → f_pq code fu (n, lo, .inl z :: r, h) Q) : f_pq code fu (pc, lo, .inl y :: .inl x :: r, h) Q := pq_s hc rfl (w _ (ti_sub hb))
theorem qw_imul {x y : Int32} (hc : code pc = some (i_ii (fun x y => x * y) n)) {c : Int} (hx : x.toInt = c) (hb : -2147483648 ≤ c * y.toInt ∧ c * y.toInt < 2147483648) (w : ∀ z : Int32, z.toInt = c * y.toInt → f_pq code fu (n, lo, .inl z :: r, h) Q) : f_pq code fu (pc, lo, .inl y :: .inl x :: r, h) Q := pq_s hc rfl (w _ (by subst hx; exact ti_mul hb))
theorem qw_ii {op : Int32 → Int32 → Int32} {x y : Int32} (hc : code pc = some (i_ii op n)) (w : f_pq code fu (n, lo, .inl (op x y) :: r, h) Q) : f_pq code fu (pc, lo, .inl y :: .inl x :: r, h) Q := pq_s hc rfl w
theorem qw_ll {op : Int64 → Int64 → Int64} {x y : Int64} (hc : code pc = some (i_ll op n)) (w : f_pq code fu (n, lo, .inr (.inl (op x y)) :: r, h) Q) : f_pq code fu (pc, lo, .inr (.inl y) :: .inr (.inl x) :: r, h) Q := pq_s hc rfl w
theorem qw_li {op : Int64 → Int32 → Int64} {x : Int64} {y : Int32} (hc : code pc = some (i_li op n)) (w : f_pq code fu (n, lo, .inr (.inl (op x y)) :: r, h) Q) : f_pq code fu (pc, lo, .inl y :: .inr (.inl x) :: r, h) Q := pq_s hc rfl w
theorem qw_i1 {op : Int32 → Int32} {x : Int32} (hc : code pc = some (i_i1 op n)) (w : f_pq code fu (n, lo, .inl (op x) :: r, h) Q) : f_pq code fu (pc, lo, .inl x :: r, h) Q := pq_s hc rfl w
theorem qw_i2l {x : Int32} (hc : code pc = some (i_i2l n)) (w : f_pq code fu (n, lo, .inr (.inl x.toInt64) :: r, h) Q) : f_pq code fu (pc, lo, .inl x :: r, h) Q := pq_s hc rfl w
theorem qw_l2i {x : Int64} (hc : code pc = some (i_l2i n)) (w : f_pq code fu (n, lo, .inl x.toInt32 :: r, h) Q) : f_pq code fu (pc, lo, .inr (.inl x) :: r, h) Q := pq_s hc rfl w
theorem qw_lcmp {x y : Int64} (hc : code pc = some (i_lcmp n)) (w : f_pq code fu (n, lo, .inl (lg_cmp x y) :: r, h) Q) : f_pq code fu (pc, lo, .inr (.inl y) :: .inr (.inl x) :: r, h) Q := pq_s hc rfl w
theorem qw_dup {v : f_V} (hc : code pc = some (i_dup n)) (hv : f_cat v = 1) (w : f_pq code fu (n, lo, v :: v :: r, h) Q) : f_pq code fu (pc, lo, v :: r, h) Q := pq_s hc (if_pos hv) w
theorem qw_pop {v : f_V} (hc : code pc = some (i_pop n)) (hv : f_cat v = 1) (w : f_pq code fu (n, lo, r, h) Q) : f_pq code fu (pc, lo, v :: r, h) Q := pq_s hc (if_pos hv) w
theorem qw_dup2 {v u : f_V} (hc : code pc = some (i_dup2 n)) (hv : f_cat v = 1 ∧ f_cat u = 1) (w : f_pq code fu (n, lo, v :: u :: v :: u :: r, h) Q) : f_pq code fu (pc, lo, v :: u :: r, h) Q := pq_s hc (if_pos hv) w
theorem qw_ret (hc : code pc = some i_return) (hq : Q none h) : f_pq code fu (pc, lo, [], h) Q := pq_r hc rfl hq
theorem qw_lret {x : Int64} (hc : code pc = some i_lreturn) (hq : Q (some (.inr (.inl x))) h) : f_pq code fu (pc, lo, [.inr (.inl x)], h) Q := pq_r hc rfl hq
theorem qw_aret {x : Option Nat} (hc : code pc = some i_areturn) (hq : Q (some (.inr (.inr x))) h) : f_pq code fu (pc, lo, [.inr (.inr x)], h) Q := pq_r hc rfl hq
theorem qw_if_eq {x : Int32} (hc : code pc = some (i_if_eq t n)) (h1 : x.toInt = 0 → f_pq code fu (t, lo, r, h) Q) (h2 : ¬ x.toInt = 0 → f_pq code fu (n, lo, r, h) Q) : f_pq code fu (pc, lo, .inl x :: r, h) Q := qwp_if_eq hc (fun e => h1 (by rw [e]; rfl)) (fun e => h2 (fun z => e (ti_eq z)))
theorem qw_if_ne {x : Int32} (hc : code pc = some (i_if_ne t n)) (h1 : x.toInt = 0 → f_pq code fu (n, lo, r, h) Q) (h2 : ¬ x.toInt = 0 → f_pq code fu (t, lo, r, h) Q) : f_pq code fu (pc, lo, .inl x :: r, h) Q := qwp_if_ne hc (fun e => h1 (by rw [e]; rfl)) (fun e => h2 (fun z => e (ti_eq z)))
theorem qw_if_lt {x : Int32} (hc : code pc = some (i_if_lt t n)) (h1 : x.toInt < 0 → f_pq code fu (t, lo, r, h) Q) (h2 : ¬ x.toInt < 0 → f_pq code fu (n, lo, r, h) Q) : f_pq code fu (pc, lo, .inl x :: r, h) Q := qwp_if_lt hc (fun e => h1 (Int32.lt_iff_toInt_lt.mp e)) (fun e => h2 (fun z => e (Int32.lt_iff_toInt_lt.mpr z)))
theorem qw_if_ge {x : Int32} (hc : code pc = some (i_if_ge t n)) (h1 : 0 ≤ x.toInt → f_pq code fu (t, lo, r, h) Q) (h2 : ¬ 0 ≤ x.toInt → f_pq code fu (n, lo, r, h) Q) : f_pq code fu (pc, lo, .inl x :: r, h) Q := qwp_if_ge hc (fun e => h1 (Int32.le_iff_toInt_le.mp e)) (fun e => h2 (fun z => e (Int32.le_iff_toInt_le.mpr z)))
theorem qw_if_gt {x : Int32} (hc : code pc = some (i_if_gt t n)) (h1 : 0 < x.toInt → f_pq code fu (t, lo, r, h) Q) (h2 : ¬ 0 < x.toInt → f_pq code fu (n, lo, r, h) Q) : f_pq code fu (pc, lo, .inl x :: r, h) Q := qwp_if_gt hc (fun e => h1 (Int32.lt_iff_toInt_lt.mp e)) (fun e => h2 (fun z => e (Int32.lt_iff_toInt_lt.mpr z)))
theorem qw_if_le {x : Int32} (hc : code pc = some (i_if_le t n)) (h1 : x.toInt ≤ 0 → f_pq code fu (t, lo, r, h) Q) (h2 : ¬ x.toInt ≤ 0 → f_pq code fu (n, lo, r, h) Q) : f_pq code fu (pc, lo, .inl x :: r, h) Q := qwp_if_le hc (fun e => h1 (Int32.le_iff_toInt_le.mp e)) (fun e => h2 (fun z => e (Int32.le_iff_toInt_le.mpr z)))
theorem qw_ic_eq {x y : Int32} (hc : code pc = some (i_ic_eq t n)) (h1 : x.toInt = y.toInt → f_pq code fu (t, lo, r, h) Q) (h2 : ¬ x.toInt = y.toInt → f_pq code fu (n, lo, r, h) Q) : f_pq code fu (pc, lo, .inl y :: .inl x :: r, h) Q := qwp_ic_eq hc (fun e => h1 (by rw [e])) (fun e => h2 (fun z => e (ti_eq z)))
theorem qw_ic_ne {x y : Int32} (hc : code pc = some (i_ic_ne t n)) (h1 : x.toInt = y.toInt → f_pq code fu (n, lo, r, h) Q) (h2 : ¬ x.toInt = y.toInt → f_pq code fu (t, lo, r, h) Q) : f_pq code fu (pc, lo, .inl y :: .inl x :: r, h) Q := qwp_ic_ne hc (fun e => h1 (by rw [e])) (fun e => h2 (fun z => e (ti_eq z)))
theorem qw_ic_lt {x y : Int32} (hc : code pc = some (i_ic_lt t n)) (h1 : x.toInt < y.toInt → f_pq code fu (t, lo, r, h) Q) (h2 : ¬ x.toInt < y.toInt → f_pq code fu (n, lo, r, h) Q) : f_pq code fu (pc, lo, .inl y :: .inl x :: r, h) Q := qwp_ic_lt hc (fun e => h1 (Int32.lt_iff_toInt_lt.mp e)) (fun e => h2 (fun z => e (Int32.lt_iff_toInt_lt.mpr z)))
theorem qw_ic_ge {x y : Int32} (hc : code pc = some (i_ic_ge t n)) (h1 : y.toInt ≤ x.toInt → f_pq code fu (t, lo, r, h) Q) (h2 : ¬ y.toInt ≤ x.toInt → f_pq code fu (n, lo, r, h) Q) : f_pq code fu (pc, lo, .inl y :: .inl x :: r, h) Q := qwp_ic_ge hc (fun e => h1 (Int32.le_iff_toInt_le.mp e)) (fun e => h2 (fun z => e (Int32.le_iff_toInt_le.mpr z)))
theorem qw_ic_gt {x y : Int32} (hc : code pc = some (i_ic_gt t n)) (h1 : y.toInt < x.toInt → f_pq code fu (t, lo, r, h) Q) (h2 : ¬ y.toInt < x.toInt → f_pq code fu (n, lo, r, h) Q) : f_pq code fu (pc, lo, .inl y :: .inl x :: r, h) Q := qwp_ic_gt hc (fun e => h1 (Int32.lt_iff_toInt_lt.mp e)) (fun e => h2 (fun z => e (Int32.lt_iff_toInt_lt.mpr z)))
theorem qw_ic_le {x y : Int32} (hc : code pc = some (i_ic_le t n)) (h1 : x.toInt ≤ y.toInt → f_pq code fu (t, lo, r, h) Q) (h2 : ¬ x.toInt ≤ y.toInt → f_pq code fu (n, lo, r, h) Q) : f_pq code fu (pc, lo, .inl y :: .inl x :: r, h) Q := qwp_ic_le hc (fun e => h1 (Int32.le_iff_toInt_le.mp e)) (fun e => h2 (fun z => e (Int32.le_iff_toInt_le.mpr z)))
theorem qw_getI {c j ci : Nat} {ks : List Nat} {v : f_V} (hc : code pc = some (i_getI sh (f_at c j) n)) (hs : sh[i]? = some (.inr (ci, ks))) (hci : f_at c j ci = some j) (hk : ks[j]? = some 0) (hv : .inl (h.1 i j) = v) (w : f_pq code fu (n, lo, v :: r, h) Q) : f_pq code fu (pc, lo, .inr (.inr (some i)) :: r, h) Q := pq_s hc (by unfold i_getI; dsimp only; rw [hs]; dsimp only; rw [hci]; dsimp only; rw [if_pos hk, hv]) w
theorem qw_getL {c j ci : Nat} {ks : List Nat} {v : f_V} (hc : code pc = some (i_getL sh (f_at c j) n)) (hs : sh[i]? = some (.inr (ci, ks))) (hci : f_at c j ci = some j) (hk : ks[j]? = some 1) (hv : .inr (.inl (h.2.1 i j)) = v) (w : f_pq code fu (n, lo, v :: r, h) Q) : f_pq code fu (pc, lo, .inr (.inr (some i)) :: r, h) Q := pq_s hc (by unfold i_getL; dsimp only; rw [hs]; dsimp only; rw [hci]; dsimp only; rw [if_pos hk, hv]) w
theorem qw_getR {c j ci : Nat} {ks : List Nat} {v : f_V} (hc : code pc = some (i_getR sh (f_at c j) n)) (hs : sh[i]? = some (.inr (ci, ks))) (hci : f_at c j ci = some j) (hk : ks[j]? = some 2) (hv : .inr (.inr (h.2.2 i j)) = v) (w : f_pq code fu (n, lo, v :: r, h) Q) : f_pq code fu (pc, lo, .inr (.inr (some i)) :: r, h) Q := pq_s hc (by unfold i_getR; dsimp only; rw [hs]; dsimp only; rw [hci]; dsimp only; rw [if_pos hk, hv]) w
theorem qw_putI {z : Bool} {c j ci : Nat} {ks : List Nat} {x : Int32} {h' : f_H} (hc : code pc = some (i_putI z sh (f_at c j) n)) (hs : sh[i]? = some (.inr (ci, ks))) (hci : f_at c j ci = some j) (hk : ks[j]? = some 0) (hz : z = true → x = 0 ∨ x = 1) (hh : f_uI h i j x = h') (w : f_pq code fu (n, lo, r, h') Q) : f_pq code fu (pc, lo, .inl x :: .inr (.inr (some i)) :: r, h) Q := pq_s hc (by unfold i_putI; dsimp only; rw [hs]; dsimp only; rw [hci]; dsimp only; rw [if_pos ⟨hk, hz⟩, hh]) w
theorem qw_putL {c j ci : Nat} {ks : List Nat} {x : Int64} {h' : f_H} (hc : code pc = some (i_putL sh (f_at c j) n)) (hs : sh[i]? = some (.inr (ci, ks))) (hci : f_at c j ci = some j) (hk : ks[j]? = some 1) (hh : f_uL h i j x = h') (w : f_pq code fu (n, lo, r, h') Q) : f_pq code fu (pc, lo, .inr (.inl x) :: .inr (.inr (some i)) :: r, h) Q := pq_s hc (by unfold i_putL; dsimp only; rw [hs]; dsimp only; rw [hci]; dsimp only; rw [if_pos hk, hh]) w
theorem qw_putR {c j ci : Nat} {ks : List Nat} {x : Option Nat} {h' : f_H} (hc : code pc = some (i_putR sh (f_at c j) n)) (hs : sh[i]? = some (.inr (ci, ks))) (hci : f_at c j ci = some j) (hk : ks[j]? = some 2) (hh : f_uR h i j x = h') (w : f_pq code fu (n, lo, r, h') Q) : f_pq code fu (pc, lo, .inr (.inr x) :: .inr (.inr (some i)) :: r, h) Q := pq_s hc (by unfold i_putR; dsimp only; rw [hs]; dsimp only; rw [hci]; dsimp only; rw [if_pos hk, hh]) w
end Q2
section Q3
variable {code : Nat → Option f_I} {pc : Nat} {lo : List (Option f_V)} {st r : List f_V} {Q : Option f_V → f_H → Prop} {n i N : Nat} {sh : List f_X} {a : Nat → Nat → Int32} {b : Nat → Nat → Int64} {j : Int32} {fu : Nat}
theorem qm_iald (hc : code pc = some (i_iaload sh n)) (hs : sh[i]? = some (.inl (1, N))) (w : 0 ≤ j.toInt ∧ j.toInt < N → ∀ z : Int32, z = a i j.toInt.toNat → f_pq code fu (n, lo, .inl z :: r, mH a b) Q) : f_pq code fu (pc, lo, .inl j :: .inr (.inr (some i)) :: r, mH a b) Q := qwp_iaload hc hs (fun hj => w hj _ rfl)
theorem qm_bald (hc : code pc = some (i_baload sh n)) (hs : sh[i]? = some (.inl (3, N))) (w : 0 ≤ j.toInt ∧ j.toInt < N → ∀ z : Int32, z = a i j.toInt.toNat → f_pq code fu (n, lo, .inl z :: r, mH a b) Q) : f_pq code fu (pc, lo, .inl j :: .inr (.inr (some i)) :: r, mH a b) Q := qwp_baload hc hs (fun hj => w hj _ rfl)
theorem qm_lald (hc : code pc = some (i_laload sh n)) (hs : sh[i]? = some (.inl (2, N))) (w : 0 ≤ j.toInt ∧ j.toInt < N → ∀ z : Int64, z = b i j.toInt.toNat → f_pq code fu (n, lo, .inr (.inl z) :: r, mH a b) Q) : f_pq code fu (pc, lo, .inl j :: .inr (.inr (some i)) :: r, mH a b) Q := qwp_laload hc hs (fun hj => w hj _ rfl)
theorem qm_iast {x : Int32} (hc : code pc = some (i_iastore sh n)) (hs : sh[i]? = some (.inl (1, N))) (w : 0 ≤ j.toInt ∧ j.toInt < N → ∀ a1, a1 = mU a i j.toInt.toNat x → f_pq code fu (n, lo, r, mH a1 b) Q) : f_pq code fu (pc, lo, .inl x :: .inl j :: .inr (.inr (some i)) :: r, mH a b) Q := qwp_iastore hc hs (fun hj => w hj _ rfl)
theorem qm_bast {x : Int32} (hc : code pc = some (i_bastore sh n)) (hs : sh[i]? = some (.inl (3, N))) (w : 0 ≤ j.toInt ∧ j.toInt < N → ∀ a1, a1 = mU a i j.toInt.toNat (vp_nar .boolean x) → f_pq code fu (n, lo, r, mH a1 b) Q) : f_pq code fu (pc, lo, .inl x :: .inl j :: .inr (.inr (some i)) :: r, mH a b) Q := qwp_bastore hc hs (fun hj => w hj _ rfl)
theorem qm_last {x : Int64} (hc : code pc = some (i_lastore sh n)) (hs : sh[i]? = some (.inl (2, N))) (w : 0 ≤ j.toInt ∧ j.toInt < N → ∀ b1, b1 = mV b i j.toInt.toNat x → f_pq code fu (n, lo, r, mH a b1) Q) : f_pq code fu (pc, lo, .inr (.inl x) :: .inl j :: .inr (.inr (some i)) :: r, mH a b) Q := qwp_lastore hc hs (fun hj => w hj _ rfl)
end Q3
section Q4
variable {code : Nat → Option f_I} {pc : Nat} {lo : List (Option f_V)} {st r : List f_V} {h : f_H} {Q : Option f_V → f_H → Prop} {n i : Nat} {sh : List f_X} {a : Nat → Nat → Int32} {b : Nat → Nat → Int64} {fu : Nat}
theorem qw_iiU {op : Int32 → Int32 → Int32} {x y : Int32} (hc : code pc = some (i_ii op n)) (w : ∀ z : Int32, True → f_pq code fu (n, lo, .inl z :: r, h) Q) : f_pq code fu (pc, lo, .inl y :: .inl x :: r, h) Q := pq_s hc rfl (w _ trivial)
theorem qw_iiE {op : Int32 → Int32 → Int32} {x y : Int32} (hc : code pc = some (i_ii op n)) (w : ∀ z : Int32, z = op x y → f_pq code fu (n, lo, .inl z :: r, h) Q) : f_pq code fu (pc, lo, .inl y :: .inl x :: r, h) Q := pq_s hc rfl (w _ rfl)
theorem qw_imulR {x y : Int32} (hc : code pc = some (i_ii (fun x y => x * y) n)) {c : Int} (hy : y.toInt = c) (hb : -2147483648 ≤ c * x.toInt ∧ c * x.toInt < 2147483648) (w : ∀ z : Int32, z.toInt = c * x.toInt → f_pq code fu (n, lo, .inl z :: r, h) Q) : f_pq code fu (pc, lo, .inl y :: .inl x :: r, h) Q := pq_s hc rfl (w _ (by subst hy; rw [Int.mul_comm] at hb ⊢; exact ti_mul hb))
theorem qw_idiv {x y : Int32} {c : Int} (hc : code pc = some (i_iid (fun x y => x / y) n)) (hy : y.toInt = c) (h0 : 0 < c) (hx : 0 ≤ x.toInt) (w : ∀ z : Int32, z.toInt = x.toInt / c → f_pq code fu (n, lo, .inl z :: r, h) Q) : f_pq code fu (pc, lo, .inl y :: .inl x :: r, h) Q := qwp_iid hc (fun z => by rw [z] at hy; have e : (0 : Int32).toInt = 0 := rfl; omega) (w _ (by subst hy; exact ti_div hx h0))
theorem qw_irem {x y : Int32} {c : Int} (hc : code pc = some (i_iid (fun x y => x - x / y * y) n)) (hy : y.toInt = c) (h0 : 0 < c) (hx : 0 ≤ x.toInt) (w : ∀ z : Int32, z.toInt = x.toInt % c → f_pq code fu (n, lo, .inl z :: r, h) Q) : f_pq code fu (pc, lo, .inl y :: .inl x :: r, h) Q := qwp_iid hc (fun z => by rw [z] at hy; have e : (0 : Int32).toInt = 0 := rfl; omega) (w _ (by subst hy; exact ti_rem hx h0))
theorem qw_iidE {op : Int32 → Int32 → Int32} {x y : Int32} (hc : code pc = some (i_iid op n)) (hy : ¬ y.toInt = 0) (w : ∀ z : Int32, z = op x y → f_pq code fu (n, lo, .inl z :: r, h) Q) : f_pq code fu (pc, lo, .inl y :: .inl x :: r, h) Q := qwp_iid hc (fun z => hy (by rw [z]; rfl)) (w _ rfl)
theorem qw_i1U {op : Int32 → Int32} {x : Int32} (hc : code pc = some (i_i1 op n)) (w : ∀ z : Int32, z = op x → f_pq code fu (n, lo, .inl z :: r, h) Q) : f_pq code fu (pc, lo, .inl x :: r, h) Q := pq_s hc rfl (w _ rfl)
theorem qw_llE {op : Int64 → Int64 → Int64} {x y : Int64} (hc : code pc = some (i_ll op n)) (w : ∀ z : Int64, z = op x y → f_pq code fu (n, lo, .inr (.inl z) :: r, h) Q) : f_pq code fu (pc, lo, .inr (.inl y) :: .inr (.inl x) :: r, h) Q := pq_s hc rfl (w _ rfl)
theorem qw_lldE {op : Int64 → Int64 → Int64} {x y : Int64} (hc : code pc = some (i_lld op n)) (hy : ¬ y = 0) (w : ∀ z : Int64, z = op x y → f_pq code fu (n, lo, .inr (.inl z) :: r, h) Q) : f_pq code fu (pc, lo, .inr (.inl y) :: .inr (.inl x) :: r, h) Q := qwp_lld hc hy (w _ rfl)
theorem qw_liE {op : Int64 → Int32 → Int64} {x : Int64} {y : Int32} (hc : code pc = some (i_li op n)) (w : ∀ z : Int64, z = op x y → f_pq code fu (n, lo, .inr (.inl z) :: r, h) Q) : f_pq code fu (pc, lo, .inl y :: .inr (.inl x) :: r, h) Q := pq_s hc rfl (w _ rfl)
theorem qw_i2lE {x : Int32} (hc : code pc = some (i_i2l n)) (w : ∀ z : Int64, z = x.toInt64 → f_pq code fu (n, lo, .inr (.inl z) :: r, h) Q) : f_pq code fu (pc, lo, .inl x :: r, h) Q := pq_s hc rfl (w _ rfl)
theorem qw_l2iE {x : Int64} (hc : code pc = some (i_l2i n)) (w : ∀ z : Int32, z = x.toInt32 → f_pq code fu (n, lo, .inl z :: r, h) Q) : f_pq code fu (pc, lo, .inr (.inl x) :: r, h) Q := pq_s hc rfl (w _ rfl)
theorem qw_lcmpE {x y : Int64} (hc : code pc = some (i_lcmp n)) (w : ∀ z : Int32, z = lg_cmp x y → f_pq code fu (n, lo, .inl z :: r, h) Q) : f_pq code fu (pc, lo, .inr (.inl y) :: .inr (.inl x) :: r, h) Q := pq_s hc rfl (w _ rfl)
theorem qm_putI {z : Bool} {c j ci : Nat} {ks : List Nat} {x : Int32} (hc : code pc = some (i_putI z sh (f_at c j) n)) (hs : sh[i]? = some (.inr (ci, ks))) (hci : f_at c j ci = some j) (hk : ks[j]? = some 0) (hz : z = true → x = 0 ∨ x = 1) (w : ∀ a1, a1 = mU a i j x → f_pq code fu (n, lo, r, mH a1 b) Q) : f_pq code fu (pc, lo, .inl x :: .inr (.inr (some i)) :: r, mH a b) Q := qw_putI hc hs hci hk hz rfl (w _ rfl)
theorem qm_putL {c j ci : Nat} {ks : List Nat} {x : Int64} (hc : code pc = some (i_putL sh (f_at c j) n)) (hs : sh[i]? = some (.inr (ci, ks))) (hci : f_at c j ci = some j) (hk : ks[j]? = some 1) (w : ∀ b1, b1 = mV b i j x → f_pq code fu (n, lo, r, mH a b1) Q) : f_pq code fu (pc, lo, .inr (.inl x) :: .inr (.inr (some i)) :: r, mH a b) Q := qw_putL hc hs hci hk rfl (w _ rfl)
end Q4
section Q5
variable {code : Nat → Option f_I} {pc : Nat} {lo : List (Option f_V)} {r : List f_V} {h : f_H} {Q : Option f_V → f_H → Prop} {fu : Nat}
theorem qw_tab {x : Int32} {lo0 : Int} {ts : List Nat} {d : Nat} (hc : code pc = some (i_tab lo0 ts d)) (h1 : x.toInt < lo0 ∨ lo0 + ts.length ≤ x.toInt → f_pq code fu (d, lo, r, h) Q) (h2 : ∀ (k t : Nat), ts[k]? = some t → x.toInt = lo0 + k → f_pq code fu (t, lo, r, h) Q) : f_pq code fu (pc, lo, .inl x :: r, h) Q := by
  by_cases hh : x.toInt < lo0 ∨ lo0 + ts.length ≤ x.toInt
  · exact pq_s hc (if_pos hh) (h1 hh)
  · have hlt : (x.toInt - lo0).toNat < ts.length := by omega
    have ht := List.getElem?_eq_getElem hlt
    refine pq_s hc ?_ (h2 _ _ ht (by omega))
    unfold i_tab
    dsimp only
    rw [if_neg hh, ht]
end Q5
section Q6
variable {code : Nat → Option f_I} {fu : Nat}
theorem qw_iincU {code : Nat → Option f_I} {pc i n : Nat} {lo : List (Option f_V)} {st : List f_V} {h : f_H} {Q : Option f_V → f_H → Prop} {x d : Int32} {lo' : Int32 → List (Option f_V)} (hc : code pc = some (i_iinc i d n)) (hx : lo[i]? = some (some (.inl x))) (hl : ∀ z, f_s1 lo i (.inl z) = lo' z) (w : ∀ z : Int32, True → f_pq code fu (n, lo' z, st, h) Q) : f_pq code fu (pc, lo, st, h) Q := pq_s hc (by unfold i_iinc; dsimp only; rw [hx]; dsimp only; rw [hl]) (w _ trivial)
end Q6
section Q7
variable {code : Nat → Option f_I} {pc : Nat} {lo : List (Option f_V)} {st r : List f_V} {Q : Option f_V → f_H → Prop} {n i N : Nat} {sh : List f_X} {a : Nat → Nat → Int32} {b : Nat → Nat → Int64} {v : Nat → Option Nat} {j : Int32} {h : f_H} {fu : Nat}
theorem qc_iald (hc : code pc = some (i_iaload sh n)) (hs : sh[i]? = some (.inl (1, N))) (w : 0 ≤ j.toInt ∧ j.toInt < N → ∀ z : Int32, z = a i j.toInt.toNat → f_pq code fu (n, lo, .inl z :: r, cH a b v) Q) : f_pq code fu (pc, lo, .inl j :: .inr (.inr (some i)) :: r, cH a b v) Q := qwp_iaload hc hs (fun hj => w hj _ rfl)
theorem qc_bald (hc : code pc = some (i_baload sh n)) (hs : sh[i]? = some (.inl (3, N))) (w : 0 ≤ j.toInt ∧ j.toInt < N → ∀ z : Int32, z = a i j.toInt.toNat → f_pq code fu (n, lo, .inl z :: r, cH a b v) Q) : f_pq code fu (pc, lo, .inl j :: .inr (.inr (some i)) :: r, cH a b v) Q := qwp_baload hc hs (fun hj => w hj _ rfl)
theorem qc_cald (hc : code pc = some (i_caload sh n)) (hs : sh[i]? = some (.inl (0, N))) (w : 0 ≤ j.toInt ∧ j.toInt < N → ∀ z : Int32, z = a i j.toInt.toNat → f_pq code fu (n, lo, .inl z :: r, cH a b v) Q) : f_pq code fu (pc, lo, .inl j :: .inr (.inr (some i)) :: r, cH a b v) Q := qwp_caload hc hs (fun hj => w hj _ rfl)
theorem qc_lald (hc : code pc = some (i_laload sh n)) (hs : sh[i]? = some (.inl (2, N))) (w : 0 ≤ j.toInt ∧ j.toInt < N → ∀ z : Int64, z = b i j.toInt.toNat → f_pq code fu (n, lo, .inr (.inl z) :: r, cH a b v) Q) : f_pq code fu (pc, lo, .inl j :: .inr (.inr (some i)) :: r, cH a b v) Q := qwp_laload hc hs (fun hj => w hj _ rfl)
theorem qc_aald4 {t : Option Nat} (hc : code pc = some (i_aald4 sh n)) (hs : sh[i]? = some (.inl (4, N))) (ht : rC v i j.toInt.toNat = t) (w : 0 ≤ j.toInt ∧ j.toInt < N → f_pq code fu (n, lo, .inr (.inr t) :: r, cH a b v) Q) : f_pq code fu (pc, lo, .inl j :: .inr (.inr (some i)) :: r, cH a b v) Q := qwp_aald4 hc hs (fun hj => by subst ht; exact w hj)
theorem qc_aald5 {t : Option Nat} (hc : code pc = some (i_aald5 sh n)) (hs : sh[i]? = some (.inl (5, N))) (ht : rC v i j.toInt.toNat = t) (w : 0 ≤ j.toInt ∧ j.toInt < N → f_pq code fu (n, lo, .inr (.inr t) :: r, cH a b v) Q) : f_pq code fu (pc, lo, .inl j :: .inr (.inr (some i)) :: r, cH a b v) Q := qwp_aald5 hc hs (fun hj => by subst ht; exact w hj)
theorem qc_iast {x : Int32} (hc : code pc = some (i_iastore sh n)) (hs : sh[i]? = some (.inl (1, N))) (w : 0 ≤ j.toInt ∧ j.toInt < N → ∀ a1, a1 = mU a i j.toInt.toNat x → f_pq code fu (n, lo, r, cH a1 b v) Q) : f_pq code fu (pc, lo, .inl x :: .inl j :: .inr (.inr (some i)) :: r, cH a b v) Q := qwp_iastore hc hs (fun hj => w hj _ rfl)
theorem qc_cast {x : Int32} (hc : code pc = some (i_castore sh n)) (hs : sh[i]? = some (.inl (0, N))) (w : 0 ≤ j.toInt ∧ j.toInt < N → ∀ a1, a1 = mU a i j.toInt.toNat (vp_nar .char x) → f_pq code fu (n, lo, r, cH a1 b v) Q) : f_pq code fu (pc, lo, .inl x :: .inl j :: .inr (.inr (some i)) :: r, cH a b v) Q := qwp_castore hc hs (fun hj => w hj _ rfl)
theorem qc_last {x : Int64} (hc : code pc = some (i_lastore sh n)) (hs : sh[i]? = some (.inl (2, N))) (w : 0 ≤ j.toInt ∧ j.toInt < N → ∀ b1, b1 = mV b i j.toInt.toNat x → f_pq code fu (n, lo, r, cH a b1 v) Q) : f_pq code fu (pc, lo, .inr (.inl x) :: .inl j :: .inr (.inr (some i)) :: r, cH a b v) Q := qwp_lastore hc hs (fun hj => w hj _ rfl)
theorem qc_getI {j ci : Nat} {fl : Nat → Option Nat} {ks : List Nat} (hc : code pc = some (i_getI sh fl n)) (hs : sh[i]? = some (.inr (ci, ks))) (hci : fl ci = some j) (hk : ks[j]? = some 0) (w : f_pq code fu (n, lo, .inl (a i j) :: r, cH a b v) Q) : f_pq code fu (pc, lo, .inr (.inr (some i)) :: r, cH a b v) Q := pq_s hc (by unfold i_getI; dsimp only; rw [hs]; dsimp only; rw [hci]; dsimp only; rw [if_pos hk]) w
theorem qc_getL {j ci : Nat} {fl : Nat → Option Nat} {ks : List Nat} (hc : code pc = some (i_getL sh fl n)) (hs : sh[i]? = some (.inr (ci, ks))) (hci : fl ci = some j) (hk : ks[j]? = some 1) (w : f_pq code fu (n, lo, .inr (.inl (b i j)) :: r, cH a b v) Q) : f_pq code fu (pc, lo, .inr (.inr (some i)) :: r, cH a b v) Q := pq_s hc (by unfold i_getL; dsimp only; rw [hs]; dsimp only; rw [hci]; dsimp only; rw [if_pos hk]) w
theorem qc_getR {j ci : Nat} {fl : Nat → Option Nat} {ks : List Nat} {t : Option Nat} (hc : code pc = some (i_getR sh fl n)) (hs : sh[i]? = some (.inr (ci, ks))) (hci : fl ci = some j) (hk : ks[j]? = some 2) (ht : rC v i j = t) (w : f_pq code fu (n, lo, .inr (.inr t) :: r, cH a b v) Q) : f_pq code fu (pc, lo, .inr (.inr (some i)) :: r, cH a b v) Q := pq_s hc (by unfold i_getR; dsimp only; rw [hs]; dsimp only; rw [hci]; dsimp only; rw [if_pos hk]) (by subst ht; exact w)
theorem qc_putI {z : Bool} {j ci : Nat} {fl : Nat → Option Nat} {ks : List Nat} {x : Int32} (hc : code pc = some (i_putI z sh fl n)) (hs : sh[i]? = some (.inr (ci, ks))) (hci : fl ci = some j) (hk : ks[j]? = some 0) (hz : z = true → x = 0 ∨ x = 1) (w : ∀ a1, a1 = mU a i j x → f_pq code fu (n, lo, r, cH a1 b v) Q) : f_pq code fu (pc, lo, .inl x :: .inr (.inr (some i)) :: r, cH a b v) Q := pq_s hc (by unfold i_putI; dsimp only; rw [hs]; dsimp only; rw [hci]; dsimp only; rw [if_pos ⟨hk, hz⟩]; rfl) (w _ rfl)
theorem qc_putL {j ci : Nat} {fl : Nat → Option Nat} {ks : List Nat} {x : Int64} (hc : code pc = some (i_putL sh fl n)) (hs : sh[i]? = some (.inr (ci, ks))) (hci : fl ci = some j) (hk : ks[j]? = some 1) (w : ∀ b1, b1 = mV b i j x → f_pq code fu (n, lo, r, cH a b1 v) Q) : f_pq code fu (pc, lo, .inr (.inl x) :: .inr (.inr (some i)) :: r, cH a b v) Q := pq_s hc (by unfold i_putL; dsimp only; rw [hs]; dsimp only; rw [hci]; dsimp only; rw [if_pos hk]; rfl) (w _ rfl)
theorem qc_putR {j ci k : Nat} {fl : Nat → Option Nat} {ks : List Nat} {x : Option Nat} (hc : code pc = some (i_putR sh fl n)) (hs : sh[i]? = some (.inr (ci, ks))) (hci : fl ci = some j) (hk : ks[j]? = some 2) (hu : f_uR (cH a b v) i j x = cH a b (vU v k x)) (w : ∀ v1, v1 = vU v k x → f_pq code fu (n, lo, r, cH a b v1) Q) : f_pq code fu (pc, lo, .inr (.inr x) :: .inr (.inr (some i)) :: r, cH a b v) Q := pq_s hc (by unfold i_putR; dsimp only; rw [hs]; dsimp only; rw [hci]; dsimp only; rw [if_pos hk, hu]) (w _ rfl)
theorem qc_alen {t : Nat} (hc : code pc = some (i_alen sh n)) (hs : sh[i]? = some (.inl (t, N))) (ht : t < 6) (w : f_pq code fu (n, lo, .inl (Int32.ofNat N) :: r, h) Q) : f_pq code fu (pc, lo, .inr (.inr (some i)) :: r, h) Q := pq_s hc (by unfold i_alen; dsimp only; rw [hs]; dsimp only; rw [if_pos ht]) w
theorem qc_sfld {g : Nat → Option f_V} {x : f_V} (hc : code pc = some (i_sfld g n)) (hg : g i = some x) (w : f_pq code fu (n, lo, x :: r, h) Q) : f_pq code fu (pc, lo, .inr (.inr (some i)) :: r, h) Q := pq_s hc (by unfold i_sfld; dsimp only; rw [hg]) w
theorem qc_sel {pl : Nat} {g : Nat → f_V} (hc : code pc = some (i_sel N pl g n)) (w : 0 ≤ j.toInt ∧ j.toInt < N → f_pq code fu (n, lo, g j.toInt.toNat :: r, h) Q) : f_pq code fu (pc, lo, .inl j :: .inr (.inr (some pl)) :: r, h) Q := by
  by_cases hj : 0 ≤ j.toInt ∧ j.toInt < N
  · exact pq_s hc (by unfold i_sel; dsimp only; rw [if_pos ⟨rfl, Int32.le_iff_toInt_le.mpr hj.1, by show j.toInt.toNat < N; omega⟩]; rfl) (w hj)
  · exact pq_none hc (by unfold i_sel; dsimp only; rw [if_neg (fun h9 => hj (f_inb2 h9.2))])
theorem qc_slen {pl : Nat} (hc : code pc = some (i_slen N pl n)) (w : f_pq code fu (n, lo, .inl (Int32.ofNat N) :: r, h) Q) : f_pq code fu (pc, lo, .inr (.inr (some pl)) :: r, h) Q := pq_s hc (by unfold i_slen; dsimp only; rw [if_pos rfl]) w
theorem qc_ifnull {t : Nat} {x : Option Nat} (hc : code pc = some (i_ifnull t n)) (h1 : x = none → f_pq code fu (t, lo, r, h) Q) (h2 : ∀ y, x = some y → f_pq code fu (n, lo, r, h) Q) : f_pq code fu (pc, lo, .inr (.inr x) :: r, h) Q := by
  cases x with
  | none => exact pq_s hc rfl (h1 rfl)
  | some y => exact pq_s hc rfl (h2 y rfl)
theorem qc_aw_eq {t : Nat} {x y : Option Nat} (hc : code pc = some (i_aw_eq t n)) (hw : f_wdb x = true ∧ f_wdb y = true) (h1 : x = y → f_pq code fu (t, lo, r, h) Q) (h2 : ¬ x = y → f_pq code fu (n, lo, r, h) Q) : f_pq code fu (pc, lo, .inr (.inr y) :: .inr (.inr x) :: r, h) Q := by
  by_cases e : x = y
  · exact pq_s hc (by unfold i_aw_eq; dsimp only; rw [if_pos (by rw [hw.1, hw.2]; rfl), if_pos e]) (h1 e)
  · exact pq_s hc (by unfold i_aw_eq; dsimp only; rw [if_pos (by rw [hw.1, hw.2]; rfl), if_neg e]) (h2 e)
theorem qc_aw_ne {t : Nat} {x y : Option Nat} (hc : code pc = some (i_aw_ne t n)) (hw : f_wdb x = true ∧ f_wdb y = true) (h1 : x = y → f_pq code fu (n, lo, r, h) Q) (h2 : ¬ x = y → f_pq code fu (t, lo, r, h) Q) : f_pq code fu (pc, lo, .inr (.inr y) :: .inr (.inr x) :: r, h) Q := by
  by_cases e : x = y
  · exact pq_s hc (by unfold i_aw_ne; dsimp only; rw [if_pos (by rw [hw.1, hw.2]; rfl), if_pos e]) (h1 e)
  · exact pq_s hc (by unfold i_aw_ne; dsimp only; rw [if_pos (by rw [hw.1, hw.2]; rfl), if_neg e]) (h2 e)
theorem qc_aret {x : Option Nat} (hc : code pc = some i_areturn) (hq : Q (some (.inr (.inr x))) h) : f_pq code fu (pc, lo, [.inr (.inr x)], h) Q := pq_r hc rfl hq
theorem qc_copy {x y : Nat} {k : Int32} (hc : code pc = some (i_copy sh n)) (hx : sh[x]? = some (.inl (1, N))) (hy : sh[y]? = some (.inl (1, N))) (hk : k.toInt = N) (hr : f_cats r ≤ 16) (w : ∀ a1, (∀ c, c ≠ y → a1 c = a c) → (∀ j, j < N → a1 y j = a x j) → (∀ j, ¬ j < N → a1 y j = a y j) → f_pq code fu (n, lo, r, cH a1 b v) Q) : f_pq code fu (pc, lo, .inl k :: .inl 0 :: .inr (.inr (some y)) :: .inl 0 :: .inr (.inr (some x)) :: r, cH a b v) Q := by
  have hkN : k.toNatClampNeg = N := by show k.toInt.toNat = N; omega
  refine pq_s hc (s' := (n, lo, r, cH (fun c => if c = y then va_cpy (a x) (a y) 0 0 N else a c) b v)) ?_ (w _ (fun c h => if_neg h) (fun j hj => ?_) (fun j hj => ?_))
  · unfold i_copy
    (try dsimp only)
    rw [hx, hy]
    (try dsimp only)
    have h0 : (0 : Int32) ≤ k := Int32.le_iff_toInt_le.mpr (by have e0 : (0 : Int32).toInt = 0 := rfl; omega)
    show (if (0 : Int32) = 0 ∧ (0 : Int32) = 0 ∧ 0 ≤ k ∧ k.toNatClampNeg = N ∧ N = N ∧ f_cats r ≤ 16 then _ else _) = _
    rw [if_pos ⟨rfl, rfl, h0, hkN, rfl, hr⟩]
    rfl
  · rw [if_pos rfl]
    unfold va_cpy
    rw [if_pos ⟨Nat.zero_le _, by omega⟩]
    congr 1
    omega
  · rw [if_pos rfl]
    unfold va_cpy
    rw [if_neg (by omega)]
theorem qc_mmax {x y : Int32} (hc : code pc = some (i_mm (fun x y => if x < y then y else x) n)) (hr : f_cats r ≤ 16) (w : ∀ z : Int32, (z.toInt = x.toInt ∧ y.toInt ≤ x.toInt) ∨ (z.toInt = y.toInt ∧ x.toInt ≤ y.toInt) → f_pq code fu (n, lo, .inl z :: r, h) Q) : f_pq code fu (pc, lo, .inl y :: .inl x :: r, h) Q := pq_s hc (by unfold i_mm; dsimp only; rw [if_pos hr]) (w _ (by
  (try dsimp only)
  split
  · rename_i c; rw [Int32.lt_iff_toInt_lt] at c; exact Or.inr ⟨rfl, by omega⟩
  · rename_i c; rw [Int32.lt_iff_toInt_lt] at c; exact Or.inl ⟨rfl, by omega⟩))
theorem qc_mmin {x y : Int32} (hc : code pc = some (i_mm (fun x y => if y < x then y else x) n)) (hr : f_cats r ≤ 16) (w : ∀ z : Int32, (z.toInt = x.toInt ∧ x.toInt ≤ y.toInt) ∨ (z.toInt = y.toInt ∧ y.toInt ≤ x.toInt) → f_pq code fu (n, lo, .inl z :: r, h) Q) : f_pq code fu (pc, lo, .inl y :: .inl x :: r, h) Q := pq_s hc (by unfold i_mm; dsimp only; rw [if_pos hr]) (w _ (by
  (try dsimp only)
  split
  · rename_i c; rw [Int32.lt_iff_toInt_lt] at c; exact Or.inr ⟨rfl, by omega⟩
  · rename_i c; rw [Int32.lt_iff_toInt_lt] at c; exact Or.inl ⟨rfl, by omega⟩))
theorem qc_mabs {x : Int32} {op : Int32 → Int32} (hc : code pc = some (i_m1 op n)) (hr : f_cats r ≤ 16) (w : ∀ z : Int32, True → f_pq code fu (n, lo, .inl z :: r, h) Q) : f_pq code fu (pc, lo, .inl x :: r, h) Q := pq_s hc (by unfold i_m1; dsimp only; rw [if_pos hr]) (w _ trivial)
end Q7
section QC
variable {code : Nat → Option f_I} {pc : Nat} {lo : List (Option f_V)} {st : List f_V} {h : f_H} {Q : Option f_V → f_H → Prop} {n i : Nat} {sh : List f_X} {fu : Nat}
theorem qw_invV {mt : Nat → Option f_T} {d c mm np ci : Nat} {ks : List Nat} {as rest : List f_V} {Qc : Option f_V → f_H → Prop} (hc : code pc = some (i_invV (f_ev mt d) sh (f_at c mm) np n)) (hi : st[np]? = some (.inr (.inr (some i)))) (hs : sh[i]? = some (.inr (ci, ks))) (hm : f_at c mm ci = some mm) (hr : st.drop (np + 1) = rest) (hcat : f_cats rest ≤ 16) (ha : (st.take (np + 1)).reverse = as) (hC : f_pc mt d mm as h Qc) (w : ∀ v h', Qc v h' → f_pq code fu (n, lo, v.toList ++ rest, h') Q) : f_pq code fu (pc, lo, st, h) Q := by
  subst hr; subst ha
  cases hz : f_ev mt d mm ((st.take (np + 1)).reverse) h with
  | none => exact pq_none hc (by unfold i_invV; dsimp only; rw [hi]; dsimp only; rw [hs]; dsimp only; rw [hm]; dsimp only; rw [if_pos hcat, hz])
  | some z => exact pq_s hc (by unfold i_invV; dsimp only; rw [hi]; dsimp only; rw [hs]; dsimp only; rw [hm]; dsimp only; rw [if_pos hcat, hz]) (w z.1 z.2 (hC z hz))
theorem qw_invS {mt : Nat → Option f_T} {d mm np : Nat} {as rest : List f_V} {Qc : Option f_V → f_H → Prop} (hc : code pc = some (i_invS (f_ev mt d) mm np n)) (hl : np ≤ st.length) (hr : st.drop np = rest) (hcat : f_cats rest ≤ 16) (ha : (st.take np).reverse = as) (hC : f_pc mt d mm as h Qc) (w : ∀ v h', Qc v h' → f_pq code fu (n, lo, v.toList ++ rest, h') Q) : f_pq code fu (pc, lo, st, h) Q := by
  subst hr; subst ha
  cases hz : f_ev mt d mm ((st.take np).reverse) h with
  | none => exact pq_none hc (by unfold i_invS; dsimp only; rw [if_pos ⟨hl, hcat⟩, hz])
  | some z => exact pq_s hc (by unfold i_invS; dsimp only; rw [if_pos ⟨hl, hcat⟩, hz]) (w z.1 z.2 (hC z hz))
theorem qc_invW {mt : Nat → Option f_T} {d mm np : Nat} {pp : Nat → Bool} {as rest : List f_V} {Qc : Option f_V → f_H → Prop} (hc : code pc = some (i_invW (f_ev mt d) pp mm np n)) (hi : st[np]? = some (.inr (.inr (some i)))) (hp : pp i = true) (hr : st.drop (np + 1) = rest) (hcat : f_cats rest ≤ 8) (ha : (st.take (np + 1)).reverse = as) (hC : f_pc mt d mm as h Qc) (w : ∀ v h', Qc v h' → f_pq code fu (n, lo, v.toList ++ rest, h') Q) : f_pq code fu (pc, lo, st, h) Q := by
  subst hr; subst ha
  cases hz : f_ev mt d mm ((st.take (np + 1)).reverse) h with
  | none => exact pq_none hc (by unfold i_invW; dsimp only; rw [hi]; dsimp only; rw [if_pos ⟨hp, hcat⟩, hz])
  | some z => exact pq_s hc (by unfold i_invW; dsimp only; rw [hi]; dsimp only; rw [if_pos ⟨hp, hcat⟩, hz]) (w z.1 z.2 (hC z hz))
theorem qc_invU {mt : Nat → Option f_T} {d mm np ci : Nat} {mi : Nat → Option Nat} {ks : List Nat} {as rest : List f_V} {Qc : Option f_V → f_H → Prop} (hc : code pc = some (i_invU (f_ev mt d) sh mi np n)) (hi : st[np]? = some (.inr (.inr (some i)))) (hs : sh[i]? = some (.inr (ci, ks))) (hm : mi ci = some mm) (hr : st.drop (np + 1) = rest) (hcat : f_cats rest ≤ 8) (ha : (st.take (np + 1)).reverse = as) (hC : f_pc mt d mm as h Qc) (w : ∀ v h', Qc v h' → f_pq code fu (n, lo, v.toList ++ rest, h') Q) : f_pq code fu (pc, lo, st, h) Q := by
  subst hr; subst ha
  cases hz : f_ev mt d mm ((st.take (np + 1)).reverse) h with
  | none => exact pq_none hc (by unfold i_invU; dsimp only; rw [hi]; dsimp only; rw [hs]; dsimp only; rw [hm]; dsimp only; rw [if_pos hcat, hz])
  | some z => exact pq_s hc (by unfold i_invU; dsimp only; rw [hi]; dsimp only; rw [hs]; dsimp only; rw [hm]; dsimp only; rw [if_pos hcat, hz]) (w z.1 z.2 (hC z hz))
theorem qc_invT {mt : Nat → Option f_T} {d mm np : Nat} {as rest : List f_V} {Qc : Option f_V → f_H → Prop} (hc : code pc = some (i_invT (f_ev mt d) mm np n)) (hl : np ≤ st.length) (hr : st.drop np = rest) (hcat : f_cats rest ≤ 8) (ha : (st.take np).reverse = as) (hC : f_pc mt d mm as h Qc) (w : ∀ v h', Qc v h' → f_pq code fu (n, lo, v.toList ++ rest, h') Q) : f_pq code fu (pc, lo, st, h) Q := by
  subst hr; subst ha
  cases hz : f_ev mt d mm ((st.take np).reverse) h with
  | none => exact pq_none hc (by unfold i_invT; dsimp only; rw [if_pos ⟨hl, hcat⟩, hz])
  | some z => exact pq_s hc (by unfold i_invT; dsimp only; rw [if_pos ⟨hl, hcat⟩, hz]) (w z.1 z.2 (hC z hz))
end QC
