-- what a run comes to
def f_wp (code : Nat → Option f_I) (s : Nat × f_S) (Q : Option f_V → f_H → Prop) : Prop := ∃ (n : Nat) (z : f_R), f_run code n s = some z ∧ Q z.1 z.2
section F7
variable {code : Nat → Option f_I} {pc : Nat} {f : f_I} {lo : List (Option f_V)} {st r : List f_V} {h : f_H} {s s' : Nat × f_S} {Q : Option f_V → f_H → Prop} {t n : Nat} {sh : List f_X}
theorem wp_k (k : Nat) (hk : ∀ n, f_run code (n + k) s = f_run code n s') (w : f_wp code s' Q) : f_wp code s Q := by
  obtain ⟨n, z, hz, hq⟩ := w
  exact ⟨n + k, z, (hk n).trans hz, hq⟩
theorem wp_s (hc : code pc = some f) (hs : f (lo, st, h) = some (.inl s')) (w : f_wp code s' Q) : f_wp code (pc, lo, st, h) Q := by
  refine wp_k 1 (fun n => ?_) w
  show (match code pc with | none => none | some f => match f (lo, st, h) with | none => none | some (.inl s') => f_run code n s' | some (.inr r) => some r) = _
  rw [hc]
  (try dsimp only)
  rw [hs]
theorem wp_r {z : f_R} (hc : code pc = some f) (hs : f (lo, st, h) = some (.inr z)) (hq : Q z.1 z.2) : f_wp code (pc, lo, st, h) Q := by
  refine ⟨1, z, ?_, hq⟩
  show (match code pc with | none => none | some f => match f (lo, st, h) with | none => none | some (.inl s') => f_run code 0 s' | some (.inr r) => some r) = _
  rw [hc]
  (try dsimp only)
  rw [hs]
theorem wp_mono {Q' : Option f_V → f_H → Prop} (w : f_wp code s Q) (hq : ∀ r h, Q r h → Q' r h) : f_wp code s Q' := by
  obtain ⟨n, z, hz, h1⟩ := w
  exact ⟨n, z, hz, hq _ _ h1⟩
theorem wp_if_eq {x : Int32} (hc : code pc = some (i_if_eq t n)) (h1 : x = 0 → f_wp code (t, lo, r, h) Q) (h2 : ¬ x = 0 → f_wp code (n, lo, r, h) Q) : f_wp code (pc, lo, .inl x :: r, h) Q := by
  by_cases hh : x = 0
  · exact wp_s hc (if_pos hh) (h1 hh)
  · exact wp_s hc (if_neg hh) (h2 hh)
theorem wp_if_ne {x : Int32} (hc : code pc = some (i_if_ne t n)) (h1 : x = 0 → f_wp code (n, lo, r, h) Q) (h2 : ¬ x = 0 → f_wp code (t, lo, r, h) Q) : f_wp code (pc, lo, .inl x :: r, h) Q := by
  by_cases hh : x = 0
  · exact wp_s hc (if_pos hh) (h1 hh)
  · exact wp_s hc (if_neg hh) (h2 hh)
theorem wp_if_lt {x : Int32} (hc : code pc = some (i_if_lt t n)) (h1 : x < 0 → f_wp code (t, lo, r, h) Q) (h2 : ¬ x < 0 → f_wp code (n, lo, r, h) Q) : f_wp code (pc, lo, .inl x :: r, h) Q := by
  by_cases hh : x < 0
  · exact wp_s hc (if_pos hh) (h1 hh)
  · exact wp_s hc (if_neg hh) (h2 hh)
theorem wp_if_ge {x : Int32} (hc : code pc = some (i_if_ge t n)) (h1 : 0 ≤ x → f_wp code (t, lo, r, h) Q) (h2 : ¬ 0 ≤ x → f_wp code (n, lo, r, h) Q) : f_wp code (pc, lo, .inl x :: r, h) Q := by
  by_cases hh : 0 ≤ x
  · exact wp_s hc (if_pos hh) (h1 hh)
  · exact wp_s hc (if_neg hh) (h2 hh)
theorem wp_if_gt {x : Int32} (hc : code pc = some (i_if_gt t n)) (h1 : 0 < x → f_wp code (t, lo, r, h) Q) (h2 : ¬ 0 < x → f_wp code (n, lo, r, h) Q) : f_wp code (pc, lo, .inl x :: r, h) Q := by
  by_cases hh : 0 < x
  · exact wp_s hc (if_pos hh) (h1 hh)
  · exact wp_s hc (if_neg hh) (h2 hh)
theorem wp_if_le {x : Int32} (hc : code pc = some (i_if_le t n)) (h1 : x ≤ 0 → f_wp code (t, lo, r, h) Q) (h2 : ¬ x ≤ 0 → f_wp code (n, lo, r, h) Q) : f_wp code (pc, lo, .inl x :: r, h) Q := by
  by_cases hh : x ≤ 0
  · exact wp_s hc (if_pos hh) (h1 hh)
  · exact wp_s hc (if_neg hh) (h2 hh)
theorem wp_ic_eq {x y : Int32} (hc : code pc = some (i_ic_eq t n)) (h1 : x = y → f_wp code (t, lo, r, h) Q) (h2 : ¬ x = y → f_wp code (n, lo, r, h) Q) : f_wp code (pc, lo, .inl y :: .inl x :: r, h) Q := by
  by_cases hh : x = y
  · exact wp_s hc (if_pos hh) (h1 hh)
  · exact wp_s hc (if_neg hh) (h2 hh)
theorem wp_ic_ne {x y : Int32} (hc : code pc = some (i_ic_ne t n)) (h1 : x = y → f_wp code (n, lo, r, h) Q) (h2 : ¬ x = y → f_wp code (t, lo, r, h) Q) : f_wp code (pc, lo, .inl y :: .inl x :: r, h) Q := by
  by_cases hh : x = y
  · exact wp_s hc (if_pos hh) (h1 hh)
  · exact wp_s hc (if_neg hh) (h2 hh)
theorem wp_ic_lt {x y : Int32} (hc : code pc = some (i_ic_lt t n)) (h1 : x < y → f_wp code (t, lo, r, h) Q) (h2 : ¬ x < y → f_wp code (n, lo, r, h) Q) : f_wp code (pc, lo, .inl y :: .inl x :: r, h) Q := by
  by_cases hh : x < y
  · exact wp_s hc (if_pos hh) (h1 hh)
  · exact wp_s hc (if_neg hh) (h2 hh)
theorem wp_ic_ge {x y : Int32} (hc : code pc = some (i_ic_ge t n)) (h1 : y ≤ x → f_wp code (t, lo, r, h) Q) (h2 : ¬ y ≤ x → f_wp code (n, lo, r, h) Q) : f_wp code (pc, lo, .inl y :: .inl x :: r, h) Q := by
  by_cases hh : y ≤ x
  · exact wp_s hc (if_pos hh) (h1 hh)
  · exact wp_s hc (if_neg hh) (h2 hh)
theorem wp_ic_gt {x y : Int32} (hc : code pc = some (i_ic_gt t n)) (h1 : y < x → f_wp code (t, lo, r, h) Q) (h2 : ¬ y < x → f_wp code (n, lo, r, h) Q) : f_wp code (pc, lo, .inl y :: .inl x :: r, h) Q := by
  by_cases hh : y < x
  · exact wp_s hc (if_pos hh) (h1 hh)
  · exact wp_s hc (if_neg hh) (h2 hh)
theorem wp_ic_le {x y : Int32} (hc : code pc = some (i_ic_le t n)) (h1 : x ≤ y → f_wp code (t, lo, r, h) Q) (h2 : ¬ x ≤ y → f_wp code (n, lo, r, h) Q) : f_wp code (pc, lo, .inl y :: .inl x :: r, h) Q := by
  by_cases hh : x ≤ y
  · exact wp_s hc (if_pos hh) (h1 hh)
  · exact wp_s hc (if_neg hh) (h2 hh)
theorem f_inb {j : Int32} {N : Nat} (h : 0 ≤ j.toInt ∧ j.toInt < N) : 0 ≤ j ∧ j.toNatClampNeg < N := by
  refine ⟨by rw [Int32.le_iff_toInt_le]; exact h.1, ?_⟩
  show j.toInt.toNat < N
  omega
theorem wp_iaload {i N : Nat} {j : Int32} (hc : code pc = some (i_iaload sh n)) (hs : sh[i]? = some (.inl (1, N))) (hj : 0 ≤ j.toInt ∧ j.toInt < N) (w : f_wp code (n, lo, .inl (h.1 i j.toNatClampNeg) :: r, h) Q) : f_wp code (pc, lo, .inl j :: .inr (.inr (some i)) :: r, h) Q := by
  refine wp_s hc ?_ w
  unfold i_iaload
  (try dsimp only)
  rw [hs]
  (try dsimp only)
  exact if_pos (f_inb hj)
theorem wp_baload {i N : Nat} {j : Int32} (hc : code pc = some (i_baload sh n)) (hs : sh[i]? = some (.inl (3, N))) (hj : 0 ≤ j.toInt ∧ j.toInt < N) (w : f_wp code (n, lo, .inl (h.1 i j.toNatClampNeg) :: r, h) Q) : f_wp code (pc, lo, .inl j :: .inr (.inr (some i)) :: r, h) Q := by
  refine wp_s hc ?_ w
  unfold i_baload
  (try dsimp only)
  rw [hs]
  (try dsimp only)
  exact if_pos (f_inb hj)
theorem wp_caload {i N : Nat} {j : Int32} (hc : code pc = some (i_caload sh n)) (hs : sh[i]? = some (.inl (0, N))) (hj : 0 ≤ j.toInt ∧ j.toInt < N) (w : f_wp code (n, lo, .inl (h.1 i j.toNatClampNeg) :: r, h) Q) : f_wp code (pc, lo, .inl j :: .inr (.inr (some i)) :: r, h) Q := by
  refine wp_s hc ?_ w
  unfold i_caload
  (try dsimp only)
  rw [hs]
  (try dsimp only)
  exact if_pos (f_inb hj)
theorem wp_laload {i N : Nat} {j : Int32} (hc : code pc = some (i_laload sh n)) (hs : sh[i]? = some (.inl (2, N))) (hj : 0 ≤ j.toInt ∧ j.toInt < N) (w : f_wp code (n, lo, .inr (.inl (h.2.1 i j.toNatClampNeg)) :: r, h) Q) : f_wp code (pc, lo, .inl j :: .inr (.inr (some i)) :: r, h) Q := by
  refine wp_s hc ?_ w
  unfold i_laload
  (try dsimp only)
  rw [hs]
  (try dsimp only)
  exact if_pos (f_inb hj)
theorem wp_aald4 {i N : Nat} {j : Int32} (hc : code pc = some (i_aald4 sh n)) (hs : sh[i]? = some (.inl (4, N))) (hj : 0 ≤ j.toInt ∧ j.toInt < N) (w : f_wp code (n, lo, .inr (.inr (h.2.2 i j.toNatClampNeg)) :: r, h) Q) : f_wp code (pc, lo, .inl j :: .inr (.inr (some i)) :: r, h) Q := by
  refine wp_s hc ?_ w
  unfold i_aald4
  (try dsimp only)
  rw [hs]
  (try dsimp only)
  exact if_pos (f_inb hj)
theorem wp_aald5 {i N : Nat} {j : Int32} (hc : code pc = some (i_aald5 sh n)) (hs : sh[i]? = some (.inl (5, N))) (hj : 0 ≤ j.toInt ∧ j.toInt < N) (w : f_wp code (n, lo, .inr (.inr (h.2.2 i j.toNatClampNeg)) :: r, h) Q) : f_wp code (pc, lo, .inl j :: .inr (.inr (some i)) :: r, h) Q := by
  refine wp_s hc ?_ w
  unfold i_aald5
  (try dsimp only)
  rw [hs]
  (try dsimp only)
  exact if_pos (f_inb hj)
theorem wp_iastore {i N : Nat} {j x : Int32} (hc : code pc = some (i_iastore sh n)) (hs : sh[i]? = some (.inl (1, N))) (hj : 0 ≤ j.toInt ∧ j.toInt < N) (w : f_wp code (n, lo, r, f_uI h i j.toNatClampNeg x) Q) : f_wp code (pc, lo, .inl x :: .inl j :: .inr (.inr (some i)) :: r, h) Q := by
  refine wp_s hc ?_ w
  unfold i_iastore
  (try dsimp only)
  rw [hs]
  (try dsimp only)
  exact if_pos (f_inb hj)
theorem wp_bastore {i N : Nat} {j x : Int32} (hc : code pc = some (i_bastore sh n)) (hs : sh[i]? = some (.inl (3, N))) (hj : 0 ≤ j.toInt ∧ j.toInt < N) (w : f_wp code (n, lo, r, f_uI h i j.toNatClampNeg (vp_nar .boolean x)) Q) : f_wp code (pc, lo, .inl x :: .inl j :: .inr (.inr (some i)) :: r, h) Q := by
  refine wp_s hc ?_ w
  unfold i_bastore
  (try dsimp only)
  rw [hs]
  (try dsimp only)
  exact if_pos (f_inb hj)
theorem wp_castore {i N : Nat} {j x : Int32} (hc : code pc = some (i_castore sh n)) (hs : sh[i]? = some (.inl (0, N))) (hj : 0 ≤ j.toInt ∧ j.toInt < N) (w : f_wp code (n, lo, r, f_uI h i j.toNatClampNeg (vp_nar .char x)) Q) : f_wp code (pc, lo, .inl x :: .inl j :: .inr (.inr (some i)) :: r, h) Q := by
  refine wp_s hc ?_ w
  unfold i_castore
  (try dsimp only)
  rw [hs]
  (try dsimp only)
  exact if_pos (f_inb hj)
theorem wp_lastore {i N : Nat} {j : Int32} {x : Int64} (hc : code pc = some (i_lastore sh n)) (hs : sh[i]? = some (.inl (2, N))) (hj : 0 ≤ j.toInt ∧ j.toInt < N) (w : f_wp code (n, lo, r, f_uL h i j.toNatClampNeg x) Q) : f_wp code (pc, lo, .inr (.inl x) :: .inl j :: .inr (.inr (some i)) :: r, h) Q := by
  refine wp_s hc ?_ w
  unfold i_lastore
  (try dsimp only)
  rw [hs]
  (try dsimp only)
  exact if_pos (f_inb hj)
theorem wp_iid {op : Int32 → Int32 → Int32} {x y : Int32} (hc : code pc = some (i_iid op n)) (hy : ¬ y = 0) (w : f_wp code (n, lo, .inl (op x y) :: r, h) Q) : f_wp code (pc, lo, .inl y :: .inl x :: r, h) Q := wp_s hc (if_neg hy) w
theorem wp_lld {op : Int64 → Int64 → Int64} {x y : Int64} (hc : code pc = some (i_lld op n)) (hy : ¬ y = 0) (w : f_wp code (n, lo, .inr (.inl (op x y)) :: r, h) Q) : f_wp code (pc, lo, .inr (.inl y) :: .inr (.inl x) :: r, h) Q := wp_s hc (if_neg hy) w
theorem wp_iret {z : Bool} {x : Int32} (hc : code pc = some (i_ireturn z)) (hz : z = true → x = 0 ∨ x = 1) (hq : Q (some (.inl x)) h) : f_wp code (pc, lo, [.inl x], h) Q := wp_r hc (if_pos hz) hq
-- calls: a method comes to its end with what Qc says, d0 calls deep
theorem wp_invV {cf : f_C} {mi : Nat → Option Nat} {np i ci mm : Nat} {ks : List Nat} {Qc : Option f_V → f_H → Prop} (hc : code pc = some (i_invV cf sh mi np n)) (hi : st[np]? = some (.inr (.inr (some i)))) (hs : sh[i]? = some (.inr (ci, ks))) (hm : mi ci = some mm) (hcat : f_cats (st.drop (np + 1)) ≤ 16) (hC : ∃ z : f_R, cf mm ((st.take (np + 1)).reverse) h = some z ∧ Qc z.1 z.2) (w : ∀ r h', Qc r h' → f_wp code (n, lo, r.toList ++ st.drop (np + 1), h') Q) : f_wp code (pc, lo, st, h) Q := by
  obtain ⟨z, hz, hq⟩ := hC
  refine wp_s hc ?_ (w z.1 z.2 hq)
  unfold i_invV
  (try dsimp only)
  rw [hi]
  (try dsimp only)
  rw [hs]
  (try dsimp only)
  rw [hm]
  (try dsimp only)
  rw [if_pos hcat, hz]
theorem wp_invS {cf : f_C} {np mm : Nat} {Qc : Option f_V → f_H → Prop} (hc : code pc = some (i_invS cf mm np n)) (hl : np ≤ st.length ∧ f_cats (st.drop np) ≤ 16) (hC : ∃ z : f_R, cf mm ((st.take np).reverse) h = some z ∧ Qc z.1 z.2) (w : ∀ r h', Qc r h' → f_wp code (n, lo, r.toList ++ st.drop np, h') Q) : f_wp code (pc, lo, st, h) Q := by
  obtain ⟨z, hz, hq⟩ := hC
  refine wp_s hc ?_ (w z.1 z.2 hq)
  unfold i_invS
  (try dsimp only)
  rw [if_pos hl, hz]
end F7
-- a method of the table mt, called with as on h, d0 calls deep: it ends, and Q holds
def f_call (mt : Nat → Option f_T) (d0 m : Nat) (as : List f_V) (h : f_H) (Q : Option f_V → f_H → Prop) : Prop := ∀ d, d0 ≤ d → ∃ z : f_R, f_ev mt d m as h = some z ∧ Q z.1 z.2
theorem f_call_of {mt : Nat → Option f_T} {d0 m nL : Nat} {y : MethodName} {cc : ByteArray} {rt : Option FieldType} {tb : f_C → List (Nat × f_I)} {as : List f_V} {h : f_H} {Q : Option f_V → f_H → Prop} (hm : mt m = some (y, cc, nL, rt, tb)) (hl : (f_args as).length ≤ nL) (w : ∀ d, d0 ≤ d → f_wp (f_code (tb (f_ev mt d))) (0, f_lo as nL, [], h) Q) : f_call mt (d0 + 1) m as h Q := by
  intro d hd
  match d, hd with
  | d + 1, hd =>
    obtain ⟨n, z, hz, hq⟩ := w d (by omega)
    refine ⟨z, ?_, hq⟩
    unfold f_ev
    rw [hm]
    dsimp only
    rw [if_pos hl]
    exact f_fix_of hz
theorem f_call.mono {mt : Nat → Option f_T} {d0 m : Nat} {as : List f_V} {h : f_H} {Q Q' : Option f_V → f_H → Prop} (w : f_call mt d0 m as h Q) (hq : ∀ r h, Q r h → Q' r h) : f_call mt d0 m as h Q' := fun d hd => by
  obtain ⟨z, hz, h1⟩ := w d hd
  exact ⟨z, hz, hq _ _ h1⟩
