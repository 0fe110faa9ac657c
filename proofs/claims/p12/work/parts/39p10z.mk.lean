-- MARK: what it answers and lays
def OKM (i j : Int32) (f : Nat → Int32) : Prop := (0 ≤ i.toInt ∧ i.toInt < 4) ∧ (j.toInt = 0 ∨ ¬ (f i.toInt.toNat).toInt = 0)
def MRK (i j x : Int32) (f f' : Nat → Int32) : Prop := (x.toInt = 1 ∧ OKM i j f ∧ ¬ (f' i.toInt.toNat).toInt = 0 ∧ ∀ m, m < 4 → ¬ m = i.toInt.toNat → f' m = f m) ∨ (x.toInt = 0 ∧ ¬ OKM i j f ∧ ∀ m, m < 4 → f' m = f m)
-- LAND: no mark is there behind one without a fault
def LNK (x : Int32) (f f' : Nat → Int32) : Prop := (x.toInt = 0 → ∀ m, m < 4 → (f' m).toInt = 0) ∧ (¬ x.toInt = 0 → ∀ m, m < 4 → f' m = f m)
-- the class's marks
abbrev mrC (a : Nat → Nat → Int32) : Nat → Int32 := fun m => a (206 + 8 * m) 10
def KPM (f f' : Nat → Int32) : Prop := ∀ m, m < 4 → f' m = f m
-- the same marks are laid
def MK (f g : Nat → Int32) : Prop := ∀ m, m < 4 → ((f m).toInt = 0 ↔ (g m).toInt = 0)
theorem MK.kp {f f' g g' : Nat → Int32} (h : MK f g) (p : KPM f f') (q : KPM g g') : MK f' g' := fun m hm => by rw [p m hm, q m hm]; exact h m hm
theorem KPM.rf {f : Nat → Int32} : KPM f f := fun _ _ => rfl
theorem MK.ok {i j j' : Int32} {f g : Nat → Int32} (h : MK f g) (e : j = j') : OKM i j f ↔ OKM i j' g := by
  subst e
  unfold OKM
  constructor
  · intro ⟨h1, h2⟩
    have h3 := h i.toInt.toNat (by omega)
    exact ⟨h1, h2.imp id (fun q r => q (h3.mpr r))⟩
  · intro ⟨h1, h2⟩
    have h3 := h i.toInt.toNat (by omega)
    exact ⟨h1, h2.imp id (fun q r => q (h3.mp r))⟩
theorem MK.ans {i j j' x y : Int32} {f f' g g' : Nat → Int32} (h : MK f g) (e : j = j') (p : MRK i j x f f') (q : MRK i j' y g g') : x.toInt = y.toInt := by
  rcases p with ⟨p1, p2, -⟩ | ⟨p1, p2, -⟩ <;> rcases q with ⟨q1, q2, -⟩ | ⟨q1, q2, -⟩
  · omega
  · exact absurd ((h.ok e).mp p2) q2
  · exact absurd ((h.ok e).mpr q2) p2
  · omega
theorem MK.mrk {i j j' x y : Int32} {f f' g g' : Nat → Int32} (h : MK f g) (e : j = j') (p : MRK i j x f f') (q : MRK i j' y g g') : MK f' g' := by
  have a := h.ans e p q
  rcases p with ⟨p1, p2, p3, p4⟩ | ⟨p1, p2, p3⟩ <;> rcases q with ⟨q1, q2, q3, q4⟩ | ⟨q1, q2, q3⟩
  · intro m hm
    by_cases z : m = i.toInt.toNat
    · subst z
      exact ⟨fun r => absurd r p3, fun r => absurd r q3⟩
    · rw [p4 m hm z, q4 m hm z]
      exact h m hm
  · omega
  · omega
  · exact h.kp p3 q3
theorem MK.lnd {x y : Int32} {f f' g g' : Nat → Int32} (h : MK f g) (e : x.toInt = y.toInt) (p : LNK x f f') (q : LNK y g g') : MK f' g' := by
  by_cases z : x.toInt = 0
  · exact fun m hm => ⟨fun _ => q.1 (by omega) m hm, fun _ => p.1 z m hm⟩
  · exact h.kp (p.2 z) (q.2 (by omega))
