-- the reader's state: N tokens, the law's text from s on, the pile h high
def iS (a : Nat → Nat → Int32) (b : Nat → Nat → Int64) (c : Int32) : Prop := (a 0 8).toInt = 0 ∧ (a 2 (a 0 7).toInt.toNat).toInt = 3 ∧ (b 4 (a 0 7).toInt.toNat).toInt = c.toInt
def iW (a : Nat → Nat → Int32) (b : Nat → Nat → Int64) (c : Int32) : Prop := (a 0 8).toInt = 0 ∧ (a 2 (a 0 7).toInt.toNat).toInt = 1 ∧ (b 4 (a 0 7).toInt.toNat).toInt = (b 5 c.toInt.toNat).toInt
theorem iS.same {a a' : Nat → Nat → Int32} {b : Nat → Nat → Int64} {c : Int32} (h8 : (a' 0 8).toInt = (a 0 8).toInt) (h7 : (a' 0 7).toInt = (a 0 7).toInt) (h2 : a' 2 = a 2) : iS a' b c ↔ iS a b c := by
  unfold iS
  rw [h8, h7, h2]
theorem iW.same {a a' : Nat → Nat → Int32} {b : Nat → Nat → Int64} {c : Int32} (h8 : (a' 0 8).toInt = (a 0 8).toInt) (h7 : (a' 0 7).toInt = (a 0 7).toInt) (h2 : a' 2 = a 2) : iW a' b c ↔ iW a b c := by
  unfold iW
  rw [h8, h7, h2]
theorem hgs_bin {k g : Int} {h : Nat} (hk : 4 ≤ k ∧ k ≤ 10) : hgs k g (h + 2) = some (h + 1) := by
  unfold hgs
  rw [if_neg (by omega), if_neg (by omega), if_pos (by omega)]
  rfl
theorem hgs_not {g : Int} {h : Nat} : hgs 3 g (h + 1) = some (h + 1) := by
  unfold hgs
  rw [if_neg (by omega), if_pos (by omega)]
theorem hgs_lit {k g : Int} {h : Nat} (hk : k = 1 ∨ (k = 2 ∧ 0 ≤ g ∧ g ≤ 3)) : hgs k g h = some (h + 1) := by
  unfold hgs
  rw [if_pos hk]
def PS (a : Nat → Nat → Int32) (N s h : Nat) : Prop := N ≤ 1000 ∧ (a 0 7).toInt ≤ N ∧ (a 2 N).toInt = 0 ∧ (a 0 13).toInt ≤ (a 0 7).toInt ∧ (s : Int) ≤ (a 0 13).toInt ∧ ((a 0 8).toInt = 0 → hgr a (1100 + s) ((a 0 13).toInt.toNat - s) = some h)
def KP (s : Nat) (t : Int) (a a' : Nat → Nat → Int32) : Prop := (∀ j, j ≠ 7 → j ≠ 8 → j ≠ 13 → a' 0 j = a 0 j) ∧ (∀ j, j < 1100 + s → a' 7 j = a 7 j ∧ a' 8 j = a 8 j) ∧ (a 0 7).toInt ≤ (a' 0 7).toInt ∧ (a' 0 13).toInt - (a' 0 7).toInt + t ≤ (a 0 13).toInt - (a 0 7).toInt
theorem KP.rf {s : Nat} {a : Nat → Nat → Int32} : KP s 0 a a := ⟨fun _ _ _ _ => rfl, fun _ _ => ⟨rfl, rfl⟩, Int.le_refl _, by omega⟩
theorem KP.tr {s : Nat} {t u : Int} {a a1 a2 : Nat → Nat → Int32} (h : KP s t a a1) (g : KP s u a1 a2) : KP s (t + u) a a2 := by
  obtain ⟨h1, h2, h3, h4⟩ := h
  obtain ⟨g1, g2, g3, g4⟩ := g
  exact ⟨fun j x y z => (g1 j x y z).trans (h1 j x y z), fun j hj => ⟨(g2 j hj).1.trans (h2 j hj).1, (g2 j hj).2.trans (h2 j hj).2⟩, by omega, by omega⟩
theorem KP.le {s : Nat} {t u : Int} {a a1 : Nat → Nat → Int32} (h : KP s t a a1) (hu : u ≤ t) : KP s u a a1 := ⟨h.1, h.2.1, h.2.2.1, by have := h.2.2.2; omega⟩
theorem PS.T {a : Nat → Nat → Int32} {N s h : Nat} (p : PS a N s h) : N ≤ 1000 ∧ (a 0 7).toInt ≤ N ∧ (a 2 N).toInt = 0 := ⟨p.1, p.2.1, p.2.2.1⟩
theorem PS.tok {a a' : Nat → Nat → Int32} {N s h : Nat} (p : PS a N s h) (f : FR [0] a a') (x : (∀ j, j ≠ 7 → j ≠ 8 → a' 0 j = a 0 j) ∧ (a 0 7).toInt ≤ (a' 0 7).toInt ∧ (a' 0 7).toInt ≤ N) (g : (a' 0 8).toInt = 0 → (a 0 8).toInt = 0) : PS a' N s h ∧ KP s ((a' 0 7).toInt - (a 0 7).toInt) a a' := by
  obtain ⟨p1, p2, p3, p4, p5, p6⟩ := p
  obtain ⟨x1, x2, x3⟩ := x
  have e13 := x1 13 (by decide) (by decide)
  refine ⟨⟨p1, x3, by rw [f 2 (by decide)]; exact p3, by rw [e13]; omega, by rw [e13]; exact p5, fun z => ?_⟩, fun j a7 a8 _ => x1 j a7 a8, fun j _ => ⟨by rw [f 7 (by decide)], by rw [f 8 (by decide)]⟩, x2, by rw [e13]; omega⟩
  rw [e13, hgr_same (a := a) (p := 1100 + s) (fun i _ => ⟨by rw [f 7 (by decide)], by rw [f 8 (by decide)]⟩)]
  exact p6 (g z)
theorem PS.wrong {a a' : Nat → Nat → Int32} {N s h k : Nat} (p : PS a N s h) (f : FR [0] a a') (x : ∀ j, j ≠ 8 → a' 0 j = a 0 j) (g : 0 < (a' 0 8).toInt) : PS a' N s k ∧ KP s 0 a a' := by
  obtain ⟨p1, p2, p3, p4, p5, p6⟩ := p
  have e13 := x 13 (by decide)
  have e7 := x 7 (by decide)
  exact ⟨⟨p1, by rw [e7]; exact p2, by rw [f 2 (by decide)]; exact p3, by rw [e13, e7]; exact p4, by rw [e13]; exact p5, fun z => by omega⟩, fun j _ a8 _ => x j a8, fun j _ => ⟨by rw [f 7 (by decide)], by rw [f 8 (by decide)]⟩, by rw [e7]; omega, by rw [e13, e7]; omega⟩
theorem PS.bad {a : Nat → Nat → Int32} {N s h k : Nat} (p : PS a N s h) (g : 0 < (a 0 8).toInt) : PS a N s k := ⟨p.1, p.2.1, p.2.2.1, p.2.2.2.1, p.2.2.2.2.1, fun z => by omega⟩
theorem PS.up {a a' : Nat → Nat → Int32} {N s h : Nat} {x : Int32} (p : PS a N s h) (e : a' = mU a 0 7 x) (hx : x.toInt = (a 0 7).toInt + 1) (hn : (a 0 7).toInt < N) : PS a' N s h ∧ KP s 1 a a' := by
  obtain ⟨p1, p2, p3, p4, p5, p6⟩ := p
  subst e
  have e7 : (mU a 0 7 x 0 7).toInt = (a 0 7).toInt + 1 := by rw [mU_same]; exact hx
  have e8 : mU a 0 7 x 0 8 = a 0 8 := mU_slot (by decide)
  have e13 : mU a 0 7 x 0 13 = a 0 13 := mU_slot (by decide)
  refine ⟨⟨p1, by omega, by rw [mU_cell (by decide)]; exact p3, by rw [e13]; omega, by rw [e13]; exact p5, fun z => ?_⟩, fun j a7 _ _ => mU_slot a7, fun j _ => ⟨by rw [mU_cell (by decide)], by rw [mU_cell (by decide)]⟩, by omega, by rw [e13]; omega⟩
  rw [e13, hgr_same (a := a) (p := 1100 + s) (fun i _ => ⟨by rw [mU_cell (by decide)], by rw [mU_cell (by decide)]⟩)]
  exact p6 (by rw [← e8]; exact z)
def EM (a a' : Nat → Nat → Int32) (c p : Int32) : Prop := (∀ j, j ≠ 13 → a' 0 j = a 0 j) ∧ (a' 0 13).toInt = (a 0 13).toInt + 1 ∧ (∀ j, j ≠ 1100 + (a 0 13).toInt.toNat → a' 7 j = a 7 j ∧ a' 8 j = a 8 j) ∧ a' 7 (1100 + (a 0 13).toInt.toNat) = c ∧ a' 8 (1100 + (a 0 13).toInt.toNat) = p
theorem EM.hg {a a' : Nat → Nat → Int32} {c p : Int32} {s h k : Nat} (m : EM a a' c p) (hs : (s : Int) ≤ (a 0 13).toInt) (g : hgr a (1100 + s) ((a 0 13).toInt.toNat - s) = some h) (hq : hgs c.toInt p.toInt h = some k) : hgr a' (1100 + s) ((a' 0 13).toInt.toNat - s) = some k := by
  obtain ⟨m1, m2, m3, m4, m5⟩ := m
  have e0 : hgr a' (1100 + s) ((a 0 13).toInt.toNat - s) = some h := by
    rw [hgr_same (a := a) (p := 1100 + s) (fun i hi => m3 _ (by omega))]
    exact g
  rw [show (a' 0 13).toInt.toNat - s = ((a 0 13).toInt.toNat - s) + 1 from by omega, hgr_up e0, show 1100 + s + ((a 0 13).toInt.toNat - s) = 1100 + (a 0 13).toInt.toNat from by omega, m4, m5]
  exact hq
theorem PS.emit {a a' : Nat → Nat → Int32} {c q : Int32} {N s h k : Nat} (p : PS a N s h) (f : FR [0, 7, 8] a a') (m : EM a a' c q) (hc : (a 0 13).toInt + 1 ≤ (a 0 7).toInt) (hq : (a 0 8).toInt = 0 → hgs c.toInt q.toInt h = some k) : PS a' N s k ∧ KP s (-1) a a' := by
  obtain ⟨p1, p2, p3, p4, p5, p6⟩ := p
  have m2 := m
  obtain ⟨m1, e13, m3, -, -⟩ := m2
  have e7 := m1 7 (by decide)
  have e8 := m1 8 (by decide)
  refine ⟨⟨p1, by rw [e7]; exact p2, by rw [f 2 (by decide)]; exact p3, by rw [e7]; omega, by omega, fun z => ?_⟩, fun j _ _ x => m1 j x, fun j hj => m3 j (by omega), by rw [e7]; omega, by rw [e7]; omega⟩
  rw [e8] at z
  exact m.hg p5 (p6 z) (hq z)
theorem PS.lit {a a1 a' : Nat → Nat → Int32} {c q x : Int32} {N s h k : Nat} (p : PS a N s h) (f : FR [0, 7, 8] a a1) (m : EM a a1 c q) (e : a' = mU a1 0 7 x) (hx : x.toInt = (a1 0 7).toInt + 1) (hn : (a 0 7).toInt < N) (hq : (a 0 8).toInt = 0 → hgs c.toInt q.toInt h = some k) : PS a' N s k ∧ KP s 0 a a' := by
  obtain ⟨p1, p2, p3, p4, p5, p6⟩ := p
  have m2 := m
  obtain ⟨m1, e13, m3, -, -⟩ := m2
  have e7 := m1 7 (by decide)
  have e8 := m1 8 (by decide)
  subst e
  rw [e7] at hx
  have g7 : (mU a1 0 7 x 0 7).toInt = (a 0 7).toInt + 1 := by rw [mU_same]; exact hx
  have g8 : mU a1 0 7 x 0 8 = a 0 8 := by rw [mU_slot (by decide)]; exact e8
  have g13 : mU a1 0 7 x 0 13 = a1 0 13 := mU_slot (by decide)
  refine ⟨⟨p1, by omega, by rw [mU_cell (by decide), f 2 (by decide)]; exact p3, by rw [g13]; omega, by rw [g13]; omega, fun z => ?_⟩, fun j a7 _ x => by rw [mU_slot a7]; exact m1 j x, fun j hj => by rw [mU_cell (by decide), mU_cell (by decide)]; exact m3 j (by omega), by omega, by rw [g13]; omega⟩
  rw [g8] at z
  rw [g13, hgr_same (a := a1) (p := 1100 + s) (fun i _ => ⟨by rw [mU_cell (by decide)], by rw [mU_cell (by decide)]⟩)]
  exact m.hg p5 (p6 z) (hq z)
