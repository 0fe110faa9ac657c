-- the text of a law: how high the pile stands after n steps from p
def hgs (k g : Int) (h : Nat) : Option Nat := if k = 1 ∨ (k = 2 ∧ 0 ≤ g ∧ g ≤ 3) then some (h + 1) else if k = 3 ∧ 1 ≤ h then some h else if 4 ≤ k ∧ k ≤ 10 ∧ 2 ≤ h then some (h - 1) else none
def hgr (a : Nat → Nat → Int32) (p : Nat) : Nat → Option Nat
  | 0 => some 0
  | n + 1 => match hgr a p n with
    | none => none
    | some h => hgs (a 7 (p + n)).toInt (a 8 (p + n)).toInt h
theorem hgs_inv {k g : Int} {h h1 : Nat} (e : hgs k g h = some h1) : ((k = 1 ∨ (k = 2 ∧ 0 ≤ g ∧ g ≤ 3)) ∧ h1 = h + 1) ∨ (k = 3 ∧ 1 ≤ h ∧ h1 = h) ∨ (4 ≤ k ∧ k ≤ 10 ∧ 2 ≤ h ∧ h1 + 1 = h) := by
  unfold hgs at e
  split at e
  · rename_i c
    cases e
    exact Or.inl ⟨c, rfl⟩
  · split at e
    · rename_i c
      cases e
      exact Or.inr (Or.inl ⟨c.1, c.2, rfl⟩)
    · split at e
      · rename_i c
        cases e
        exact Or.inr (Or.inr ⟨c.1, c.2.1, c.2.2, by omega⟩)
      · cases e
theorem hgr_up {a : Nat → Nat → Int32} {p n h : Nat} (e : hgr a p n = some h) : hgr a p (n + 1) = hgs (a 7 (p + n)).toInt (a 8 (p + n)).toInt h := by
  show (match hgr a p n with | none => none | some h => _) = _
  rw [e]
theorem hgr_pre {a : Nat → Nat → Int32} {p n x : Nat} (e : hgr a p (n + 1) = some x) : ∃ h, hgr a p n = some h := by
  cases c : hgr a p n with
  | none =>
    have e1 : hgr a p (n + 1) = none := by
      show (match hgr a p n with | none => none | some h => _) = _
      rw [c]
    rw [e1] at e
    cases e
  | some h => exact ⟨h, rfl⟩
theorem hgr_to {a : Nat → Nat → Int32} {p m : Nat} : ∀ (k x : Nat), hgr a p (m + k) = some x → ∃ h, hgr a p m = some h
  | 0, x, e => ⟨x, e⟩
  | k + 1, x, e => by
    obtain ⟨h, e1⟩ := hgr_pre (n := m + k) e
    exact hgr_to k h e1
theorem hgr_le {a : Nat → Nat → Int32} {p : Nat} : ∀ {n h : Nat}, hgr a p n = some h → h ≤ n
  | 0, h, e => by cases e; exact Nat.le_refl _
  | n + 1, h, e => by
    obtain ⟨h0, e0⟩ := hgr_pre e
    have h1 := hgr_le e0
    rw [hgr_up e0] at e
    have h2 := hgs_inv e
    omega
theorem hgr_step {a : Nat → Nat → Int32} {p n m h x : Nat} (hn : hgr a p n = some x) (hm : hgr a p m = some h) (hl : m < n) : ∃ h1, hgs (a 7 (p + m)).toInt (a 8 (p + m)).toInt h = some h1 ∧ hgr a p (m + 1) = some h1 := by
  obtain ⟨h1, e1⟩ := hgr_to (a := a) (p := p) (m := m + 1) (n - (m + 1)) x (by rw [show m + 1 + (n - (m + 1)) = n from by omega]; exact hn)
  exact ⟨h1, by rw [← hgr_up hm]; exact e1, e1⟩
theorem hgr_same {a a' : Nat → Nat → Int32} {p p' : Nat} : ∀ {n : Nat}, (∀ i, i < n → a' 7 (p' + i) = a 7 (p + i) ∧ a' 8 (p' + i) = a 8 (p + i)) → hgr a' p' n = hgr a p n
  | 0, _ => rfl
  | n + 1, e => by
    show (match hgr a' p' n with | none => none | some h => _) = (match hgr a p n with | none => none | some h => _)
    rw [hgr_same (n := n) (fun i hi => e i (by omega)), (e n (Nat.lt_succ_self n)).1, (e n (Nat.lt_succ_self n)).2]
def CDV (a : Nat → Nat → Int32) (f : Nat) : Prop := ∃ n, f + n < 1100 ∧ hgr a f n = some 1 ∧ (a 7 (f + n)).toInt = 0
def CDI (a : Nat → Nat → Int32) : Prop := ∀ i, i < 2 → (a 6 (5 + i)).toInt < 0 ∨ CDV a (a 6 (5 + i)).toInt.toNat
theorem CDV.same {a a' : Nat → Nat → Int32} {f : Nat} (h : CDV a f) (e7 : ∀ j, j < 1100 → a' 7 j = a 7 j) (e8 : ∀ j, j < 1100 → a' 8 j = a 8 j) : CDV a' f := by
  obtain ⟨n, h1, h2, h3⟩ := h
  exact ⟨n, h1, by rw [hgr_same (p := f) (fun i hi => ⟨e7 _ (by omega), e8 _ (by omega)⟩)]; exact h2, by rw [e7 _ h1]; exact h3⟩
theorem CDI.same {a a' : Nat → Nat → Int32} (h : CDI a) (e6 : ∀ j, j < 110 → a' 6 j = a 6 j) (e7 : ∀ j, j < 1100 → a' 7 j = a 7 j) (e8 : ∀ j, j < 1100 → a' 8 j = a 8 j) : CDI a' := fun i hi => by
  rw [e6 (5 + i) (by omega)]
  exact (h i hi).elim Or.inl (fun g => Or.inr (g.same e7 e8))
theorem CDI.fr {cs : List Nat} {a a' : Nat → Nat → Int32} (h : CDI a) (f : FR cs a a') (h6 : 6 ∉ cs) (h7 : 7 ∉ cs) (h8 : 8 ∉ cs) : CDI a' := h.same (fun j _ => by rw [f 6 h6]) (fun j _ => by rw [f 7 h7]) (fun j _ => by rw [f 8 h8])
theorem itr_same {K : Nat} {a a' : Nat → Nat → Int32} {q h : Nat} (hR : RM K a) (hq : q % 60 = 0) (hh : h < 6) (e : ∀ r, r < 6 → a' 15 (q + 1 + r) = a 15 (q + 1 + r)) : ∀ k, itr a' q k h = itr a q k h ∧ ∀ y, itr a q k h = some y → y < 6
  | 0 => ⟨rfl, fun y z => by cases z; exact hh⟩
  | k + 1 => by
    obtain ⟨h1, h2⟩ := itr_same hR hq hh e k
    cases c : itr a q k h with
    | none =>
      have e1 : itr a q (k + 1) h = none := itr_none c 1
      have e2 : itr a' q (k + 1) h = none := itr_none (h1.trans c) 1
      rw [e1, e2]
      exact ⟨rfl, fun y z => by cases z⟩
    | some y =>
      have hy := h2 y c
      rw [itr_up c, itr_up (h1.trans c), e y hy]
      refine ⟨rfl, fun z hz => ?_⟩
      have hr := RM.wed hR (j := q + 1 + y) (by omega)
      split at hz
      · cases hz
        omega
      · cases hz
theorem ACm.wedq {K m : Nat} {a a1 a' : Nat → Nat → Int32} {q w j : Nat} {x : Int32} (h : ACm m a) (hR : RM K a) (hq : q % 60 = 0 ∧ q ≤ 1260) (e1 : a1 15 = a 15) (e : a' = mU a1 15 j x) (hj : j = q + 1 + w) (hw : w < 6) (hx : 0 ≤ x.toInt ∧ x.toInt < 6) (hc : ∀ k, itr a q k x.toInt.toNat ≠ some w) : ACm m a' := by
  subst hj
  by_cases hm1 : 60 * m = q
  · subst hm1
    exact AC.wed (a := a) (q := 60 * m) (w := w) (h := x.toInt.toNat) h hw (by omega) (fun x9 _ => RM.wed hR (by omega)) hc (by rw [e, mU_same]; omega) (fun x9 h8 h9 => by rw [e, mU_slot (by omega), e1])
  · exact AC.same h (fun r _ => by rw [e, mU_slot (by omega), e1])
def LN (a : Nat → Nat → Int32) (p : Nat) (k : Nat) : Prop := ((a 11 (p + 3 * k)).toInt = 2 ∨ 0 ≤ (a 11 (p + 1 + 3 * k)).toInt) ∧ ((a 11 (p + 3 * k)).toInt ≠ 0 ∨ 0 ≤ (a 11 (p + 2 + 3 * k)).toInt)
def LNI (a : Nat → Nat → Int32) : Prop := ∀ k : Nat, (k : Int) < (a 11 0).toInt → LN a 1 k
theorem RM.lin {K : Nat} {a : Nat → Nat → Int32} (h : RM K a) : 0 ≤ (a 11 0).toInt ∧ (a 11 0).toInt ≤ 24 := h 11 0
theorem RM.lin1 {K : Nat} {a : Nat → Nat → Int32} (h : RM K a) {j : Nat} (hj : j ≠ 0) : -1 ≤ (a 11 j).toInt ∧ (a 11 j).toInt ≤ 5 := by
  have h1 := h 11 j
  simp only [loM, hiM] at h1
  rw [if_neg hj, if_neg hj] at h1
  exact h1
