-- no river is its own husband's husband ..: in a block q of the state, ranks that grow along husbands
def AC (a : Nat → Nat → Int32) (q : Nat) : Prop := ∃ g : Nat → Nat, (∀ w, w < 6 → g w < 6) ∧ ∀ w, w < 6 → 0 ≤ (a 15 (q + 1 + w)).toInt → g w < g (a 15 (q + 1 + w)).toInt.toNat
theorem AC.start {a : Nat → Nat → Int32} {q : Nat} (h : ∀ r, r < 6 → a 15 (q + 1 + r) = -1) : AC a q := ⟨fun _ => 0, fun _ _ => (by decide : (0 : Nat) < 6), fun w hw h0 => by
  rw [h w hw] at h0
  exact absurd h0 (by decide)⟩
theorem AC.same {a a' : Nat → Nat → Int32} {q q' : Nat} (h : AC a q) (e : ∀ r, r < 6 → a' 15 (q' + 1 + r) = a 15 (q + 1 + r)) : AC a' q' := by
  obtain ⟨g, h1, h2⟩ := h
  refine ⟨g, h1, fun w hw h0 => ?_⟩
  rw [e w hw] at h0 ⊢
  exact h2 w hw h0
theorem AC.less {a a' : Nat → Nat → Int32} {q : Nat} (h : AC a q) (e : ∀ r, r < 6 → a' 15 (q + 1 + r) = a 15 (q + 1 + r) ∨ (a' 15 (q + 1 + r)).toInt < 0) : AC a' q := by
  obtain ⟨g, h1, h2⟩ := h
  refine ⟨g, h1, fun w hw h0 => ?_⟩
  rcases e w hw with e1 | e1
  · rw [e1] at h0 ⊢
    exact h2 w hw h0
  · omega
-- going up from a river by husbands
def itr (a : Nat → Nat → Int32) (q : Nat) : Nat → Nat → Option Nat
  | 0, h => some h
  | k + 1, h => match itr a q k h with
    | none => none
    | some y => if 0 ≤ (a 15 (q + 1 + y)).toInt then some (a 15 (q + 1 + y)).toInt.toNat else none
theorem itr_none {a : Nat → Nat → Int32} {q h k : Nat} (hn : itr a q k h = none) : ∀ j, itr a q (k + j) h = none
  | 0 => hn
  | j + 1 => by
    show (match itr a q (k + j) h with | none => none | some y => _) = none
    rw [itr_none hn j]
noncomputable def f_num (p : Prop) : Nat := @ite Nat p (Classical.propDecidable p) 6 0
theorem f_num_t {p : Prop} (h : p) : f_num p = 6 := if_pos h
theorem f_num_f {p : Prop} (h : ¬ p) : f_num p = 0 := if_neg h
def f_cnt (f : Nat → Nat) (w : Nat) : Nat := ((List.range 6).filter (fun v => decide (f v < f w))).length
theorem f_cnt_lt6 (f : Nat → Nat) (w : Nat) (hw : w < 6) : f_cnt f w < 6 := by
  unfold f_cnt
  have h1 : ((List.range 6).filter (fun v => decide (f v < f w))).length < (List.range 6).length := by
    refine List.length_filter_lt_length_iff_exists.mpr ⟨w, List.mem_range.mpr hw, ?_⟩
    simp
  simpa using h1
theorem f_cnt_mono (f : Nat → Nat) {w h : Nat} (hw : w < 6) (hlt : f w < f h) : f_cnt f w < f_cnt f h := by
  unfold f_cnt
  have key : ∀ l : List Nat, w ∈ l → (l.filter (fun v => decide (f v < f w))).length < (l.filter (fun v => decide (f v < f h))).length := by
    intro l
    have mono : ∀ l : List Nat, (l.filter (fun v => decide (f v < f w))).length ≤ (l.filter (fun v => decide (f v < f h))).length := by
      intro l
      induction l with
      | nil => simp
      | cons x xs ih =>
        by_cases h1 : f x < f w
        · have h2 : f x < f h := by omega
          simp only [List.filter_cons, h1, h2, decide_true, if_true, List.length_cons]
          omega
        · by_cases h2 : f x < f h
          · simp only [List.filter_cons, h1, h2, decide_true, decide_false, if_true, List.length_cons]
            simp
            omega
          · simp only [List.filter_cons, h1, h2, decide_false]
            simpa using ih
    intro hm
    induction l with
    | nil => cases hm
    | cons x xs ih =>
      by_cases e : x = w
      · subst e
        have h1 : ¬ f x < f x := Nat.lt_irrefl _
        simp only [List.filter_cons, h1, hlt, decide_true, decide_false, if_true, List.length_cons]
        have := mono xs
        simp
        omega
      · have hm2 : w ∈ xs := (List.mem_cons.mp hm).resolve_left (fun z => e z.symm)
        have ih2 := ih hm2
        by_cases h1 : f x < f w
        · have h2 : f x < f h := by omega
          simp only [List.filter_cons, h1, h2, decide_true, if_true, List.length_cons]
          omega
        · by_cases h2 : f x < f h
          · simp only [List.filter_cons, h1, h2, decide_true, decide_false, if_true, List.length_cons]
            simp
            omega
          · simp only [List.filter_cons, h1, h2, decide_false]
            simpa using ih2
  exact key (List.range 6) (List.mem_range.mpr hw)
theorem AC.wed {a a' : Nat → Nat → Int32} {q w h : Nat} (hA : AC a q) (hw : w < 6) (hh : h < 6) (hr : ∀ x, x < 6 → -1 ≤ (a 15 (q + 1 + x)).toInt ∧ (a 15 (q + 1 + x)).toInt ≤ 5) (hc : ∀ k, itr a q k h ≠ some w) (e1 : (a' 15 (q + 1 + w)).toInt = h) (e2 : ∀ x, x < 6 → x ≠ w → a' 15 (q + 1 + x) = a 15 (q + 1 + x)) : AC a' q := by
  obtain ⟨g, g6, gm⟩ := hA
  have key : ∀ f : Nat → Nat, f = (fun x => g x + f_num (∃ k, itr a q k h = some x)) → ∀ x, x < 6 → 0 ≤ (a' 15 (q + 1 + x)).toInt → f x < f (a' 15 (q + 1 + x)).toInt.toNat := by
    intro f hf x hx h0
    by_cases e : x = w
    · subst e
      rw [e1, hf]
      dsimp only
      rw [f_num_f (fun ⟨k, hk⟩ => hc k hk), Int.toNat_natCast, f_num_t ⟨0, rfl⟩]
      have := g6 x hx
      omega
    · rw [e2 x hx e] at h0 ⊢
      have h1 := gm x hx h0
      have h2 : f_num (∃ k, itr a q k h = some x) ≤ f_num (∃ k, itr a q k h = some (a 15 (q + 1 + x)).toInt.toNat) := by
        by_cases z : ∃ k, itr a q k h = some x
        · obtain ⟨k, hk⟩ := z
          have : ∃ k, itr a q k h = some (a 15 (q + 1 + x)).toInt.toNat := ⟨k + 1, by
            show (match itr a q k h with | none => none | some y => _) = _
            rw [hk]
            exact if_pos h0⟩
          rw [f_num_t this]
          by_cases z : ∃ k, itr a q k h = some x
          · rw [f_num_t z]
            exact Nat.le_refl _
          · rw [f_num_f z]
            exact Nat.zero_le _
        · rw [f_num_f z]
          exact Nat.zero_le _
      rw [hf]
      dsimp only
      omega
  refine ⟨f_cnt (fun x => g x + f_num (∃ k, itr a q k h = some x)), fun x hx => f_cnt_lt6 _ x hx, fun x hx h0 => f_cnt_mono _ hx (key _ rfl x hx h0)⟩
-- all the blocks
def ACm (m : Nat) (a : Nat → Nat → Int32) : Prop := AC a (60 * m)
theorem ACm.fr {m : Nat} {cs : List Nat} {a a' : Nat → Nat → Int32} (h : ACm m a) (hf : FR cs a a') (h15 : 15 ∉ cs) : ACm m a' := AC.same h (fun r _ => by rw [hf 15 h15])
theorem ACm.copy {m9 : Nat} {a a' : Nat → Nat → Int32} {q t m : Int32} (h : ACm m9 a) (hA : AC a q.toInt.toNat) (hq : 0 ≤ q.toInt ∧ q.toInt ≤ 1260 ∧ q.toInt % 60 = 0) (ht : 0 ≤ t.toInt ∧ t.toInt ≤ 1260 ∧ t.toInt % 60 = 0) (hm : 7 ≤ m.toInt ∧ m.toInt ≤ 60) (e : ∀ j, a' 15 j = if t.toInt.toNat ≤ j ∧ j < t.toInt.toNat + m.toInt.toNat then a 15 (q.toInt.toNat + (j - t.toInt.toNat)) else a 15 j) : ACm m9 a' := by
  by_cases hkt : 60 * m9 = t.toInt.toNat
  · refine AC.same hA (fun r hr => ?_)
    rw [e, if_pos (by omega)]
    congr 1
    omega
  · refine AC.same h (fun r hr => ?_)
    rw [e, if_neg (by omega)]
theorem AC.at {a : Nat → Nat → Int32} {q q' : Nat} (h : AC a q) (e : q = q') : AC a q' := e ▸ h
theorem AC.copied {a a' : Nat → Nat → Int32} {q t m : Int32} (hA : AC a q.toInt.toNat) (hm : 7 ≤ m.toInt) (e : ∀ j, a' 15 j = if t.toInt.toNat ≤ j ∧ j < t.toInt.toNat + m.toInt.toNat then a 15 (q.toInt.toNat + (j - t.toInt.toNat)) else a 15 j) : AC a' t.toInt.toNat := AC.same hA (fun r hr => by
    rw [e, if_pos (by omega)]
    congr 1
    omega)
def UX (a a' : Nat → Nat → Int32) : Prop := (a' 0 23).toInt ≤ (a 0 23).toInt ∨ (1 ≤ (a' 0 23).toInt ∧ (a' 0 23).toInt ≤ (a 0 23).toInt + 1 ∧ AC a' (60 * (4 + (a' 0 23).toInt.toNat)))
theorem RM.rng {K : Nat} {a : Nat → Nat → Int32} {j : Nat} (h : RM K a) (h1 : 91 ≤ j % 110) : 0 ≤ (a 6 j).toInt ∧ (a 6 j).toInt ≤ 99 := by
  have := h 6 j
  simp only [loM, hiM, laLo, laHi] at this
  rw [if_neg (by omega), if_neg (by omega), if_neg (by omega), if_neg (by omega)] at this
  exact this
theorem ACm.put {m : Nat} {a a' : Nat → Nat → Int32} {j : Nat} {x : Int32} (h : ACm m a) (e : a' = mU a 15 j x) (hx : (j % 60 = 0 ∨ 7 ≤ j % 60) ∨ x.toInt < 0) : ACm m a' := by
  refine AC.less h (fun r hr => ?_)
  by_cases hj : 60 * m + 1 + r = j
  · right
    rw [e, hj, mU_same]
    omega
  · left
    rw [e, mU_slot hj]
theorem ACm.up {m : Nat} {a a' : Nat → Nat → Int32} {i j : Nat} {x : Int32} (h : ACm m a) (e : a' = mU a i j x) (hi : 15 ≠ i) : ACm m a' := AC.same h (fun r _ => by rw [e, mU_cell hi])
-- the way up from h, by husbands, past w or not
theorem itr_up {a : Nat → Nat → Int32} {q k h y : Nat} (hk : itr a q k h = some y) : itr a q (k + 1) h = if 0 ≤ (a 15 (q + 1 + y)).toInt then some (a 15 (q + 1 + y)).toInt.toNat else none := by
  show (match itr a q k h with | none => none | some y => _) = _
  rw [hk]
def CH (a : Nat → Nat → Int32) (q w h : Nat) (on may : Int) : Prop := ∃ k, itr a q k h = (if 0 ≤ on then some on.toNat else none) ∧ (may = 1 → ∀ i, i < k → itr a q i h ≠ some w)
theorem CH.init {a : Nat → Nat → Int32} {q w h : Nat} {on may : Int} (ho : 0 ≤ on) (hh : on.toNat = h) : CH a q w h on may := ⟨0, by rw [if_pos ho, hh]; rfl, fun _ i hi => absurd hi (Nat.not_lt_zero i)⟩
theorem CH.step {a : Nat → Nat → Int32} {q w h : Nat} {on may may' x : Int} (hc : CH a q w h on may) (hm : may = 1) (ho : 0 ≤ on) (hn : may' = 1 → on.toNat ≠ w) (hx : (a 15 (q + 1 + on.toNat)).toInt = x) : CH a q w h x may' := by
  obtain ⟨k, h1, h2⟩ := hc
  rw [if_pos ho] at h1
  refine ⟨k + 1, by rw [itr_up h1, hx], fun hm' i hi => ?_⟩
  by_cases e : i = k
  · subst e
    rw [h1]
    exact fun z => hn hm' (Option.some.inj z)
  · exact h2 hm i (by omega)
theorem CH.done {a : Nat → Nat → Int32} {q w h : Nat} {on may : Int} (hc : CH a q w h on may) (hm : may = 1) (ho : on < 0) : ∀ k, itr a q k h ≠ some w := by
  obtain ⟨k, h1, h2⟩ := hc
  rw [if_neg (by omega)] at h1
  intro i
  by_cases e : i < k
  · exact h2 hm i e
  · have h3 := itr_none h1 (i - k)
    rw [show k + (i - k) = i from by omega] at h3
    rw [h3]
    exact fun z => by cases z
