-- the class between two calls: K of them are behind
theorem hcC_up {K c j : Nat} : hcC K c j ≤ hcC (K + 1) c j := by
  unfold hcC
  by_cases h : 70 ≤ c
  · rw [if_pos h, if_pos h]
    (repeat' split) <;> omega
  · rw [if_neg h, if_neg h]
    exact Int.le_refl _
theorem RC.mono {K : Nat} {a : Nat → Nat → Int32} (h : RC K a) : RC (K + 1) a := fun c j => ⟨(h c j).1, Int.le_trans (h c j).2 hcC_up⟩
theorem VC.n5 {v v' : Nat → Option Nat} {L : Nat} (h : VC v) (g : ∀ i, i ∉ [5] → v' i = v i) (x : v' 5 = v 5 ∨ v' 5 = some L) (hL : L = 22 ∨ L = 46) : VC v' := by
  obtain ⟨h1, h2, h3, h4, h5⟩ := h
  refine ⟨by rw [g 0 (by decide), g 1 (by decide)]; exact h1, by rw [g 2 (by decide)]; exact h2, by rw [g 3 (by decide)]; exact h3, by rw [g 4 (by decide)]; exact h4, ?_⟩
  rcases x with x | x
  · rw [x]; exact h5
  · rw [x]
    rcases hL with rfl | rfl
    · exact Or.inl rfl
    · exact Or.inr rfl
theorem VC.n23 {v v' : Nat → Option Nat} {L : Nat} (h : VC v) (g : ∀ i, i ∉ [2, 3] → v' i = v i) (x : f_wdb (v' 2) = true ∧ v' 3 = some L) (hL : L = 22 ∨ L = 46) : VC v' := by
  obtain ⟨h1, h2, h3, h4, h5⟩ := h
  refine ⟨by rw [g 0 (by decide), g 1 (by decide)]; exact h1, x.1, ?_, by rw [g 4 (by decide)]; exact h4, by rw [g 5 (by decide)]; exact h5⟩
  rw [x.2]
  rcases hL with rfl | rfl
  · exact Or.inl rfl
  · exact Or.inr rfl
theorem VC.two {v : Nat → Option Nat} (h : VC v) : ∃ L D, v 0 = some L ∧ v 1 = some D ∧ ((L = 22 ∧ D = 46) ∨ (L = 46 ∧ D = 22)) := by
  rcases h.1 with h | h
  · exact ⟨22, 46, h.1, h.2, Or.inl ⟨rfl, rfl⟩⟩
  · exact ⟨46, 22, h.1, h.2, Or.inr ⟨rfl, rfl⟩⟩
theorem VC.nl {v v' : Nat → Option Nat} {L D : Nat} (h : VC v) (g : ∀ i, i ∉ [0, 1, 2, 3, 4] → v' i = v i) (x : f_wdb (v' 2) = true ∧ v' 3 = some D ∧ (V4 v → V4 v') ∧ ((v' 0 = some L ∧ v' 1 = some D) ∨ (v' 0 = some D ∧ v' 1 = some L))) (hL : (L = 22 ∧ D = 46) ∨ (L = 46 ∧ D = 22)) : VC v' := by
  obtain ⟨h1, h2, h3, h4, h5⟩ := h
  obtain ⟨x1, x2, x3, x4⟩ := x
  refine ⟨?_, x1, ?_, x3 h4, by rw [g 5 (by decide)]; exact h5⟩
  · rcases hL with ⟨rfl, rfl⟩ | ⟨rfl, rfl⟩ <;> rcases x4 with ⟨y, z⟩ | ⟨y, z⟩ <;> rw [y, z] <;> simp
  · rw [x2]
    rcases hL with ⟨-, rfl⟩ | ⟨-, rfl⟩ <;> simp
def IC (K : Nat) (a : Nat → Nat → Int32) (v : Nat → Option Nat) : Prop := RC K a ∧ VC v
def QC (K : Nat) (P : Int32 → (Nat → Nat → Int32) → (Nat → Option Nat) → Prop) : Option f_V → f_H → Prop := fun r h' => ∃ (a' : Nat → Nat → Int32) (b' : Nat → Nat → Int64) (v' : Nat → Option Nat) (x : Int32), h' = cH a' b' v' ∧ r = some (.inl x) ∧ IC (K + 1) a' v' ∧ P x a' v'
theorem pc_feed {K : Nat} (hK : K ≤ 600) (a : Nat → Nat → Int32) (b : Nat → Nat → Int64) (v : Nat → Option Nat) (k1 : Int64) (k2 : Int64) (k3 : Int64) (hI : IC K a v) : f_call mtC 40 97 [.inr (.inr (some 0)), .inr (.inl k1), .inr (.inl k2), .inr (.inl k3)] (cH a b v) (QC K (fun x a' v' => TL (a' 2) (a' 1 6).toInt.toNat = gCl k3 (gCl k2 (gCl k1 (TL (a 2) (a 1 6).toInt.toNat) 8) 8) 8 ∧ (KPM (mrC a) (mrC a') ∧ LCK a v a' v') ∧ True)) := by
  have hR := RC.mono hI.1
  obtain ⟨L, h0, hL⟩ := hI.2.cty
  have w := s_X12_feed_2 (K := K + 1) a b v  k1 k2 k3 hR 
  refine f_call.mono (f_call.up (by omega) w) (fun r h9 q => ?_)
  obtain ⟨a1, rfl, k1, f, x, rfl, p⟩ := q
  exact ⟨a1, b, v, _, rfl, rfl, ⟨k1, hI.2⟩, f.2, ⟨(fun m9 h9 => congrFun (f.1 (206 + 8 * m9) (by simp only [List.mem_cons, List.not_mem_nil, or_false, not_or]; omega)) 10), (⟨rfl, fun L9 _ hL9 c9 h9 => f.1 c9 (by simp only [List.mem_cons, List.not_mem_nil, or_false, not_or]; omega)⟩)⟩, trivial⟩
theorem pc_land {K : Nat} (hK : K ≤ 600) (a : Nat → Nat → Int32) (b : Nat → Nat → Int64) (v : Nat → Option Nat)  (hI : IC K a v) (hf : ∀ j : Nat, (j : Int) < (a 1 6).toInt → 0 ≤ (a 2 j).toInt ∧ (a 2 j).toInt ≤ 127) : f_call mtC 40 99 [.inr (.inr (some 0))] (cH a b v) (QC K (fun x a' v' => (a' 1 6).toInt = 0 ∧ (LNK x (mrC a) (mrC a') ∧ (¬ x.toInt = 0 → LCK a v a' v')) ∧ ∃ s : LDS, LD (a 2) (a 1 6).toInt.toNat ld0 (x.toInt, s) ∧ (x.toInt = 0 → ∃ D, v' 0 = some D ∧ (D = 22 ∨ D = 46) ∧ CLI D s.2.1 a' ∧ FIT D s.2.1 a'))) := by
  have hR := RC.mono hI.1
  obtain ⟨L, D, h0, h1, hLD⟩ := hI.2.two
  have w := s_X12_land (K := K + 1) a b v L D  hR h0 h1 (by omega) (by omega)
  have y := f_call.pcd (f_call.up (d1 := 40) (by omega) w) (fun d hd => y_X12_land (d := d) a b v (K + 1) L D (by omega) hR h0 h1 (by omega) (by omega) (by omega) hf)
  refine f_call.mono y (fun r h9 q => ?_)
  obtain ⟨q, y⟩ := q
  have y : ∃ (x : Int32) (a2 : Nat → Nat → Int32) (b2 : Nat → Nat → Int64) (v2 : Nat → Option Nat), h9 = cH a2 b2 v2 ∧ r = some (.inl x) ∧ LNK x (mrC a) (mrC a2) ∧ (¬ x.toInt = 0 → LCK a v a2 v2) ∧ ∃ s : LDS, LD (a 2) (a 1 6).toInt.toNat ld0 (x.toInt, s) ∧ (x.toInt = 0 → ∃ D, v2 0 = some D ∧ (D = 22 ∨ D = 46) ∧ CLI D s.2.1 a2 ∧ FIT D s.2.1 a2) := by obtain ⟨a2, b2, v2, e2, y1, x2, y2, y3, y4, s2, y5, y6⟩ := y; exact ⟨x2, a2, b2, v2, e2, y2, ⟨fun h => (y3 h).2.2.1, fun h m hm => congrFun ((y4 h).2.2 (206 + 8 * m) (by unfold LLD; simp only [List.cons_append, List.nil_append, List.mem_cons, List.not_mem_nil, or_false, not_or]; omega)) 10⟩, fun h => ⟨(y4 h).1.trans h0.symm, fun L9 e9 hL9 c9 h9 => (y4 h).2.2 c9 (by have e8 : L = L9 := (by rw [h0] at e9; exact Option.some.inj e9); unfold LLD; simp only [List.cons_append, List.nil_append, List.mem_cons, List.not_mem_nil, or_false, not_or]; omega)⟩, s2, y5, fun h => ⟨D, (y3 h).1, by omega, (y6 h).1.ci, (y6 h).2⟩⟩
  obtain ⟨x9, a2, b2, v2, eh, ex9, hy9⟩ := y
  subst ex9
  obtain ⟨a1, b1, v1, rfl, k1, f, x, ex, p⟩ := q
  cases ex
  obtain ⟨e8, e7⟩ := cH_inj eh
  subst e8
  exact ⟨a1, b1, v1, _, rfl, rfl, ⟨k1, VC.nl hI.2 f.2.1.1 f.2.1.2 hLD⟩, f.2.2, ⟨hy9.1, (fun h => ⟨e7.trans (hy9.2.1 h).1, (hy9.2.1 h).2⟩)⟩, (by obtain ⟨s, q1, q2⟩ := hy9.2.2; exact ⟨s, q1, fun h => by obtain ⟨D, d1, d2⟩ := q2 h; exact ⟨D, e7.trans d1, d2⟩⟩)⟩
theorem pc_vows {K : Nat} (hK : K ≤ 600) (a : Nat → Nat → Int32) (b : Nat → Nat → Int64) (v : Nat → Option Nat)  (hI : IC K a v) : f_call mtC 40 101 [.inr (.inr (some 0))] (cH a b v) (QC K (fun x a' v' => (a' 1 6).toInt = 0 ∧ (KPM (mrC a) (mrC a') ∧ LCK a v a' v') ∧ True)) := by
  have hR := RC.mono hI.1
  obtain ⟨L, h0, hL⟩ := hI.2.cty
  have w := s_X12_vows (K := K + 1) a b v L  hR h0 (by omega)
  refine f_call.mono (f_call.up (by omega) w) (fun r h9 q => ?_)
  obtain ⟨a1, b1, v1, rfl, k1, f, x, rfl, p⟩ := q
  exact ⟨a1, b1, v1, _, rfl, rfl, ⟨k1, VC.n23 hI.2 f.2.1.1 f.2.1.2 hL⟩, f.2.2, ⟨(fun m9 h9 => congrFun (f.1 (206 + 8 * m9) (by simp only [List.mem_cons, List.not_mem_nil, or_false, not_or]; omega)) 10), (⟨f.2.1.1 0 (by decide), fun L9 _ hL9 c9 h9 => f.1 c9 (by simp only [List.mem_cons, List.not_mem_nil, or_false, not_or]; omega)⟩)⟩, trivial⟩
theorem pc_will {K : Nat} (hK : K ≤ 600) (a : Nat → Nat → Int32) (b : Nat → Nat → Int64) (v : Nat → Option Nat)  (hI : IC K a v) (hf : ∀ j : Nat, (j : Int) < (a 1 6).toInt → 0 ≤ (a 2 j).toInt ∧ (a 2 j).toInt ≤ 127) : f_call mtC 40 102 [.inr (.inr (some 0))] (cH a b v) (QC K (fun x a' v' => (a' 1 6).toInt = 0 ∧ (KPM (mrC a) (mrC a') ∧ LCK a v a' v') ∧ x.toInt = wlF (a 2) (a 1 6).toInt.toNat 8 0 0)) := by
  have hR := RC.mono hI.1
  obtain ⟨L, h3, hL⟩ := hI.2.rla
  have w := s_X12_will_1 (K := K + 1) a b v L  hR h3 (by omega) hf
  refine f_call.mono (f_call.up (by omega) w) (fun r h9 q => ?_)
  obtain ⟨a1, b1, v1, rfl, k1, f, x, rfl, p⟩ := q
  exact ⟨a1, b1, v1, _, rfl, rfl, ⟨k1, VC.n23 hI.2 f.2.1.1 f.2.1.2 hL⟩, f.2.2, ⟨(fun m9 h9 => congrFun (f.1 (206 + 8 * m9) (by simp only [List.mem_cons, List.not_mem_nil, or_false, not_or]; omega)) 10), (⟨f.2.1.1 0 (by decide), fun L9 _ hL9 c9 h9 => f.1 c9 (by simp only [List.mem_cons, List.not_mem_nil, or_false, not_or]; omega)⟩)⟩, p⟩
theorem pc_river {K : Nat} (hK : K ≤ 600) (a : Nat → Nat → Int32) (b : Nat → Nat → Int64) (v : Nat → Option Nat) (L : Nat) (h0 : v 0 = some L) (i : Int32) (j : Int32) (hI : IC K a v) (hg : 0 ≤ i.toInt ∧ i.toInt < (a L 7).toInt ∧ 0 ≤ j.toInt ∧ j.toInt ≤ 8) : f_call mtC 40 111 [.inr (.inr (some 0)), .inl i, .inl j] (cH a b v) (QC K (fun x a' v' => (a' 1 6 = a 1 6 ∧ a' 2 = a 2) ∧ (KPM (mrC a) (mrC a') ∧ LCK a v a' v') ∧ True)) := by
  have hR := RC.mono hI.1
  have hL : L = 22 ∨ L = 46 := by obtain ⟨L1, e1, e2⟩ := hI.2.cty; rw [h0] at e1; cases e1; exact e2
  have w := s_X12_river (K := K + 1) a b v L i j hR h0 (by omega) hg
  refine f_call.mono (f_call.up (by omega) w) (fun r h9 q => ?_)
  obtain ⟨a1, v1, rfl, k1, f, x, rfl, p⟩ := q
  exact ⟨a1, b, v1, _, rfl, rfl, ⟨k1, VC.n5 hI.2 f.2.1.1 f.2.1.2 hL⟩, ⟨congrFun (f.1 1 (by simp only [List.mem_cons, List.not_mem_nil, or_false, not_or]; omega)) 6, f.1 2 (by simp only [List.mem_cons, List.not_mem_nil, or_false, not_or]; omega)⟩, ⟨(fun m9 h9 => congrFun (f.1 (206 + 8 * m9) (by simp only [List.mem_cons, List.not_mem_nil, or_false, not_or]; omega)) 10), (⟨f.2.1.1 0 (by decide), fun L9 _ hL9 c9 h9 => f.1 c9 (by simp only [List.mem_cons, List.not_mem_nil, or_false, not_or]; omega)⟩)⟩, trivial⟩
theorem pc_flow {K : Nat} (hK : K ≤ 600) (a : Nat → Nat → Int32) (b : Nat → Nat → Int64) (v : Nat → Option Nat) (i : Int32) (j : Int32) (k : Int32) (hI : IC K a v) : f_call mtC 40 112 [.inr (.inr (some 0)), .inl i, .inl j, .inl k] (cH a b v) (QC K (fun x a' v' => (a' 1 6 = a 1 6 ∧ a' 2 = a 2) ∧ (KPM (mrC a) (mrC a') ∧ LCK a v a' v') ∧ True)) := by
  have hR := RC.mono hI.1
  obtain ⟨L, h0, hL⟩ := hI.2.cty
  have w := s_X12_flow (K := K + 1) a b v L i j k hR h0 (by omega)
  refine f_call.mono (f_call.up (by omega) w) (fun r h9 q => ?_)
  obtain ⟨a1, v1, rfl, k1, f, x, rfl, p⟩ := q
  exact ⟨a1, b, v1, _, rfl, rfl, ⟨k1, VC.n5 hI.2 f.2.1.1 f.2.1.2 hL⟩, ⟨congrFun (f.1 1 (by simp only [List.mem_cons, List.not_mem_nil, or_false, not_or]; omega)) 6, f.1 2 (by simp only [List.mem_cons, List.not_mem_nil, or_false, not_or]; omega)⟩, ⟨(fun m9 h9 => congrFun (f.1 (206 + 8 * m9) (by simp only [List.mem_cons, List.not_mem_nil, or_false, not_or]; omega)) 10), (⟨f.2.1.1 0 (by decide), fun L9 _ hL9 c9 h9 => f.1 c9 (by simp only [List.mem_cons, List.not_mem_nil, or_false, not_or]; omega)⟩)⟩, trivial⟩
theorem pc_needs {K : Nat} (hK : K ≤ 600) (a : Nat → Nat → Int32) (b : Nat → Nat → Int64) (v : Nat → Option Nat) (i : Int32) (hI : IC K a v) : f_call mtC 40 113 [.inr (.inr (some 0)), .inl i] (cH a b v) (QC K (fun x a' v' => (a' 1 6 = a 1 6 ∧ a' 2 = a 2) ∧ (KPM (mrC a) (mrC a') ∧ LCK a v a' v') ∧ True)) := by
  have hR := RC.mono hI.1
  obtain ⟨L, h0, hL⟩ := hI.2.cty
  have w := s_X12_needs (K := K + 1) a b v L i hR h0 (by omega)
  refine f_call.mono (f_call.up (by omega) w) (fun r h9 q => ?_)
  obtain ⟨a1, v1, rfl, k1, f, x, rfl, p⟩ := q
  exact ⟨a1, b, v1, _, rfl, rfl, ⟨k1, VC.n5 hI.2 f.2.1.1 f.2.1.2 hL⟩, ⟨congrFun (f.1 1 (by simp only [List.mem_cons, List.not_mem_nil, or_false, not_or]; omega)) 6, f.1 2 (by simp only [List.mem_cons, List.not_mem_nil, or_false, not_or]; omega)⟩, ⟨(fun m9 h9 => congrFun (f.1 (206 + 8 * m9) (by simp only [List.mem_cons, List.not_mem_nil, or_false, not_or]; omega)) 10), (⟨f.2.1.1 0 (by decide), fun L9 _ hL9 c9 h9 => f.1 c9 (by simp only [List.mem_cons, List.not_mem_nil, or_false, not_or]; omega)⟩)⟩, trivial⟩
theorem pc_near {K : Nat} (hK : K ≤ 600) (a : Nat → Nat → Int32) (b : Nat → Nat → Int64) (v : Nat → Option Nat) (i : Int32) (j : Int32) (hI : IC K a v) (L : Nat) (V : Nat → Int) (h0 : v 0 = some L) (hL : L = 22 ∨ L = 46) (hC : CLI L V a) (hG : GV V) : f_call mtC 40 114 [.inr (.inr (some 0)), .inl i, .inl j] (cH a b v) (QC K (fun x a' v' => (a' 1 6 = a 1 6 ∧ a' 2 = a 2) ∧ (KPM (mrC a) (mrC a') ∧ LCK a v a' v') ∧ ((((0 ≤ i.toInt ∧ i.toInt < V 0) ∧ (0 ≤ j.toInt ∧ j.toInt < V 0)) ∧ KSR V i.toInt j.toInt x.toInt) ∨ (¬ ((0 ≤ i.toInt ∧ i.toInt < V 0) ∧ (0 ≤ j.toInt ∧ j.toInt < V 0)) ∧ x.toInt = -1)))) := by
  have hR := RC.mono hI.1
  have w := s_X12_near (K := K + 1) a b v L i j hR h0 (by omega)
  have y := f_call.pcd (f_call.up (d1 := 40) (by omega) w) (fun d hd => y_X12_near (d := d) a b v L V i j h0 hL hC hG)
  refine f_call.mono y (fun r h9 q => ?_)
  obtain ⟨⟨rfl, x, rfl, -⟩, -, x2, ex, hy⟩ := q
  cases ex
  exact ⟨a, b, v, _, rfl, rfl, ⟨hR, hI.2⟩, ⟨rfl, rfl⟩, ⟨KPM.rf, LCK.rf⟩, hy⟩
theorem pc_dig {K : Nat} (hK : K ≤ 600) (a : Nat → Nat → Int32) (b : Nat → Nat → Int64) (v : Nat → Option Nat) (i : Int32) (j : Int32) (hI : IC K a v) (L : Nat) (V : Nat → Int) (h0 : v 0 = some L) (hL : L = 22 ∨ L = 46) (hC : CLI L V a) (hG : GV V) : f_call mtC 40 115 [.inr (.inr (some 0)), .inl i, .inl j] (cH a b v) (QC K (fun x a' v' => (a' 1 6 = a 1 6 ∧ a' 2 = a 2) ∧ (KPM (mrC a) (mrC a') ∧ LCK a v a' v') ∧ DIGR V i j x)) := by
  have hR := RC.mono hI.1
  have w := s_X12_dig (K := K + 1) a b v L i j hR h0 (by omega)
  have y := f_call.pcd (f_call.up (d1 := 40) (by omega) w) (fun d hd => y_X12_dig (d := d) a b v L V i j h0 hL hC hG)
  refine f_call.mono y (fun r h9 q => ?_)
  obtain ⟨⟨rfl, x, rfl, -⟩, -, x2, ex, hy⟩ := q
  cases ex
  exact ⟨a, b, v, _, rfl, rfl, ⟨hR, hI.2⟩, ⟨rfl, rfl⟩, ⟨KPM.rf, LCK.rf⟩, hy⟩
theorem pc_may {K : Nat} (hK : K ≤ 600) (a : Nat → Nat → Int32) (b : Nat → Nat → Int64) (v : Nat → Option Nat) (i : Int32) (hI : IC K a v) : f_call mtC 40 116 [.inr (.inr (some 0)), .inl i] (cH a b v) (QC K (fun x a' v' => (a' 1 6 = a 1 6 ∧ a' 2 = a 2) ∧ (KPM (mrC a) (mrC a') ∧ LCK a v a' v') ∧ True)) := by
  have hR := RC.mono hI.1
  obtain ⟨L, h0, hL⟩ := hI.2.cty
  have w := s_X12_may (K := K + 1) a b v L i hR h0 (by omega)
  refine f_call.mono (f_call.up (by omega) w) (fun r h9 q => ?_)
  obtain ⟨a1, v1, rfl, k1, f, x, rfl, p⟩ := q
  exact ⟨a1, b, v1, _, rfl, rfl, ⟨k1, VC.n5 hI.2 f.2.1.1 f.2.1.2 hL⟩, ⟨congrFun (f.1 1 (by simp only [List.mem_cons, List.not_mem_nil, or_false, not_or]; omega)) 6, f.1 2 (by simp only [List.mem_cons, List.not_mem_nil, or_false, not_or]; omega)⟩, ⟨(fun m9 h9 => congrFun (f.1 (206 + 8 * m9) (by simp only [List.mem_cons, List.not_mem_nil, or_false, not_or]; omega)) 10), (⟨f.2.1.1 0 (by decide), fun L9 _ hL9 c9 h9 => f.1 c9 (by simp only [List.mem_cons, List.not_mem_nil, or_false, not_or]; omega)⟩)⟩, trivial⟩
theorem pc_ends {K : Nat} (hK : K ≤ 600) (a : Nat → Nat → Int32) (b : Nat → Nat → Int64) (v : Nat → Option Nat)  (hI : IC K a v) (L : Nat) (V : Nat → Int) (h0 : v 0 = some L) (hL : L = 22 ∨ L = 46) (hC : CLI L V a) (hG : GV V) (hFI : FIT L V a) : f_call mtC 40 117 [.inr (.inr (some 0))] (cH a b v) (QC K (fun x a' v' => (a' 1 6 = a 1 6 ∧ a' 2 = a 2) ∧ (KPM (mrC a) (mrC a') ∧ LCK a v a' v') ∧ ENDR V x)) := by
  have hR := RC.mono hI.1
  have w := s_X12_ends (K := K + 1) a b v L  hR h0 (by omega)
  have y := f_call.pcd (f_call.up (d1 := 40) (by omega) w) (fun d hd => y_X12_ends (d := d) a b v L V  h0 hL hC hG hFI)
  refine f_call.mono y (fun r h9 q => ?_)
  obtain ⟨⟨rfl, x, rfl, -⟩, -, x2, ex, hy⟩ := q
  cases ex
  exact ⟨a, b, v, _, rfl, rfl, ⟨hR, hI.2⟩, ⟨rfl, rfl⟩, ⟨KPM.rf, LCK.rf⟩, hy⟩
theorem pc_wed {K : Nat} (hK : K ≤ 600) (a : Nat → Nat → Int32) (b : Nat → Nat → Int64) (v : Nat → Option Nat) (i : Int32) (j : Int32) (hI : IC K a v) : f_call mtC 40 119 [.inr (.inr (some 0)), .inl i, .inl j] (cH a b v) (QC K (fun x a' v' => (a' 1 6 = a 1 6 ∧ a' 2 = a 2) ∧ (KPM (mrC a) (mrC a') ∧ LCK a v a' v') ∧ True)) := by
  have hR := RC.mono hI.1
  obtain ⟨L, h0, hL⟩ := hI.2.cty
  have w := s_X12_wed (K := K + 1) a b v L i j hR h0 (by omega)
  refine f_call.mono (f_call.up (by omega) w) (fun r h9 q => ?_)
  obtain ⟨a1, v1, rfl, k1, f, x, rfl, p⟩ := q
  exact ⟨a1, b, v1, _, rfl, rfl, ⟨k1, VC.n5 hI.2 f.2.1.1 f.2.1.2 hL⟩, ⟨congrFun (f.1 1 (cU_out (by omega))) 6, f.1 2 (cU_out (by omega))⟩, ⟨(fun m9 h9 => congrFun (f.1 (206 + 8 * m9) (cU_out (by omega))) 10), (⟨f.2.1.1 0 (by decide), fun L9 _ hL9 c9 h9 => f.1 c9 (cU_out (by omega))⟩)⟩, trivial⟩
theorem pc_part {K : Nat} (hK : K ≤ 600) (a : Nat → Nat → Int32) (b : Nat → Nat → Int64) (v : Nat → Option Nat) (i : Int32) (hI : IC K a v) : f_call mtC 40 120 [.inr (.inr (some 0)), .inl i] (cH a b v) (QC K (fun x a' v' => (a' 1 6 = a 1 6 ∧ a' 2 = a 2) ∧ (KPM (mrC a) (mrC a') ∧ LCK a v a' v') ∧ True)) := by
  have hR := RC.mono hI.1
  obtain ⟨L, h0, hL⟩ := hI.2.cty
  have w := s_X12_part (K := K + 1) a b v L i hR h0 (by omega)
  refine f_call.mono (f_call.up (by omega) w) (fun r h9 q => ?_)
  obtain ⟨a1, rfl, k1, f, x, rfl, p⟩ := q
  exact ⟨a1, b, v, _, rfl, rfl, ⟨k1, hI.2⟩, ⟨congrFun (f.1 1 (cU_out (by omega))) 6, f.1 2 (cU_out (by omega))⟩, ⟨(fun m9 h9 => congrFun (f.1 (206 + 8 * m9) (cU_out (by omega))) 10), (⟨rfl, fun L9 _ hL9 c9 h9 => f.1 c9 (cU_out (by omega))⟩)⟩, trivial⟩
theorem pc_seasons {K : Nat} (hK : K ≤ 600) (a : Nat → Nat → Int32) (b : Nat → Nat → Int64) (v : Nat → Option Nat) (i : Int32) (hI : IC K a v) : f_call mtC 40 121 [.inr (.inr (some 0)), .inl i] (cH a b v) (QC K (fun x a' v' => (a' 1 6 = a 1 6 ∧ a' 2 = a 2) ∧ (KPM (mrC a) (mrC a') ∧ LCK a v a' v') ∧ True)) := by
  have hR := RC.mono hI.1
  obtain ⟨L, h0, hL⟩ := hI.2.cty
  have w := s_X12_seasons (K := K + 1) a b v L i hR h0 (by omega) (by have k9 := RC.pas hI.1 (i := 70) (by decide); omega)
  refine f_call.mono (f_call.up (by omega) w) (fun r h9 q => ?_)
  obtain ⟨a1, v1, rfl, k1, f, x, rfl, p⟩ := q
  exact ⟨a1, b, v1, _, rfl, rfl, ⟨k1, VC.n5 hI.2 f.2.1.1 f.2.1.2 hL⟩, ⟨congrFun (f.1 1 (cU_out (by omega))) 6, f.1 2 (cU_out (by omega))⟩, ⟨(fun m9 h9 => congrFun (f.1 (206 + 8 * m9) (cU_out (by omega))) 10), (⟨f.2.1.1 0 (by decide), fun L9 _ hL9 c9 h9 => f.1 c9 (cU_out (by omega))⟩)⟩, trivial⟩
theorem pc_undo {K : Nat} (hK : K ≤ 600) (a : Nat → Nat → Int32) (b : Nat → Nat → Int64) (v : Nat → Option Nat)  (hI : IC K a v) : f_call mtC 40 124 [.inr (.inr (some 0))] (cH a b v) (QC K (fun x a' v' => (a' 1 6 = a 1 6 ∧ a' 2 = a 2) ∧ (KPM (mrC a) (mrC a') ∧ LCK a v a' v') ∧ True)) := by
  have hR := RC.mono hI.1
  obtain ⟨L, h0, hL⟩ := hI.2.cty
  have w := s_X12_undo (K := K + 1) a b v   hR 
  refine f_call.mono (f_call.up (by omega) w) (fun r h9 q => ?_)
  obtain ⟨a1, rfl, k1, f, x, rfl, p⟩ := q
  exact ⟨a1, b, v, _, rfl, rfl, ⟨k1, hI.2⟩, ⟨congrFun (f.1 1 (by simp only [List.mem_cons, List.not_mem_nil, or_false, not_or]; omega)) 6, f.1 2 (by simp only [List.mem_cons, List.not_mem_nil, or_false, not_or]; omega)⟩, ⟨(fun m9 h9 => congrFun (f.1 (206 + 8 * m9) (by simp only [List.mem_cons, List.not_mem_nil, or_false, not_or]; omega)) 10), (⟨rfl, fun L9 _ hL9 c9 h9 => f.1 c9 (by simp only [List.mem_cons, List.not_mem_nil, or_false, not_or]; omega)⟩)⟩, trivial⟩
theorem pc_mark {K : Nat} (hK : K ≤ 600) (a : Nat → Nat → Int32) (b : Nat → Nat → Int64) (v : Nat → Option Nat) (i : Int32) (j : Int32) (hI : IC K a v) : f_call mtC 40 125 [.inr (.inr (some 0)), .inl i, .inl j] (cH a b v) (QC K (fun x a' v' => (a' 1 6 = a 1 6 ∧ a' 2 = a 2) ∧ (MRK i j x (mrC a) (mrC a') ∧ LCK a v a' v') ∧ True)) := by
  have hR := RC.mono hI.1
  obtain ⟨L, h0, hL⟩ := hI.2.cty
  have w := s_X12_mark (K := K + 1) a b v  i j hR 
  have y := f_call.pcd (f_call.up (d1 := 40) (by omega) w) (fun d hd => y_X12_mark (d := d) a b v i j)
  refine f_call.mono y (fun r h9 q => ?_)
  obtain ⟨q, y⟩ := q
  have y : ∃ x : Int32, r = some (.inl x) ∧ MRK i j x (mrC a) (mrC h9.1) := by obtain ⟨a2, e2, y1, x2, y2, y3⟩ := y; subst e2; exact ⟨x2, y2, y3⟩
  obtain ⟨x9, ex9, hy9⟩ := y
  subst ex9
  obtain ⟨a1, rfl, k1, f, x, ex, p⟩ := q
  cases ex
  exact ⟨a1, b, v, _, rfl, rfl, ⟨k1, hI.2⟩, ⟨congrFun (f.1 1 (cM_out (by omega))) 6, f.1 2 (cM_out (by omega))⟩, ⟨hy9, (⟨rfl, fun L9 _ hL9 c9 h9 => f.1 c9 (cM_out (by omega))⟩)⟩, trivial⟩
theorem pc_judged {K : Nat} (hK : K ≤ 600) (a : Nat → Nat → Int32) (b : Nat → Nat → Int64) (v : Nat → Option Nat) (i : Int32) (hI : IC K a v) : f_call mtC 40 126 [.inr (.inr (some 0)), .inl i] (cH a b v) (QC K (fun x a' v' => (a' 1 6 = a 1 6 ∧ a' 2 = a 2) ∧ (KPM (mrC a) (mrC a') ∧ LCK a v a' v') ∧ True)) := by
  have hR := RC.mono hI.1
  obtain ⟨L, h0, hL⟩ := hI.2.cty
  have w := s_X12_judged (K := K + 1) a b v L i hR h0 (by omega)
  refine f_call.mono (f_call.up (by omega) w) (fun r h9 q => ?_)
  obtain ⟨a1, v1, rfl, k1, f, x, rfl, p⟩ := q
  exact ⟨a1, b, v1, _, rfl, rfl, ⟨k1, VC.n5 hI.2 f.2.1.1 f.2.1.2 hL⟩, ⟨congrFun (f.1 1 (by simp only [List.mem_cons, List.not_mem_nil, or_false, not_or]; omega)) 6, f.1 2 (by simp only [List.mem_cons, List.not_mem_nil, or_false, not_or]; omega)⟩, ⟨(fun m9 h9 => congrFun (f.1 (206 + 8 * m9) (by simp only [List.mem_cons, List.not_mem_nil, or_false, not_or]; omega)) 10), (⟨f.2.1.1 0 (by decide), fun L9 _ hL9 c9 h9 => f.1 c9 (by simp only [List.mem_cons, List.not_mem_nil, or_false, not_or]; omega)⟩)⟩, trivial⟩
theorem pc_worn {K : Nat} (hK : K ≤ 600) (a : Nat → Nat → Int32) (b : Nat → Nat → Int64) (v : Nat → Option Nat) (i : Int32) (j : Int32) (hI : IC K a v) : f_call mtC 40 130 [.inr (.inr (some 0)), .inl i, .inl j] (cH a b v) (QC K (fun x a' v' => (a' 1 6 = a 1 6 ∧ a' 2 = a 2) ∧ (KPM (mrC a) (mrC a') ∧ LCK a v a' v') ∧ True)) := by
  have hR := RC.mono hI.1
  obtain ⟨L, h0, hL⟩ := hI.2.cty
  have w := s_X12_worn (K := K + 1) a b v L i j hR h0 (by omega)
  refine f_call.mono (f_call.up (by omega) w) (fun r h9 q => ?_)
  obtain ⟨rfl, x, rfl, -⟩ := q
  exact ⟨a, b, v, x, rfl, rfl, ⟨hR, hI.2⟩, ⟨rfl, rfl⟩, ⟨KPM.rf, LCK.rf⟩, trivial⟩
theorem pc_love {K : Nat} (hK : K ≤ 600) (a : Nat → Nat → Int32) (b : Nat → Nat → Int64) (v : Nat → Option Nat) (i : Int32) (hI : IC K a v) : f_call mtC 40 132 [.inr (.inr (some 0)), .inl i] (cH a b v) (QC K (fun x a' v' => (a' 1 6 = a 1 6 ∧ a' 2 = a 2) ∧ (KPM (mrC a) (mrC a') ∧ LCK a v a' v') ∧ True)) := by
  have hR := RC.mono hI.1
  obtain ⟨L, h0, hL⟩ := hI.2.cty
  have w := s_X12_love (K := K + 1) a b v L i hR h0 (by omega)
  refine f_call.mono (f_call.up (by omega) w) (fun r h9 q => ?_)
  obtain ⟨rfl, x, rfl, -⟩ := q
  exact ⟨a, b, v, x, rfl, rfl, ⟨hR, hI.2⟩, ⟨rfl, rfl⟩, ⟨KPM.rf, LCK.rf⟩, trivial⟩
theorem pc_hyphen {K : Nat} (hK : K ≤ 600) (a : Nat → Nat → Int32) (b : Nat → Nat → Int64) (v : Nat → Option Nat) (i : Int32) (hI : IC K a v) : f_call mtC 40 133 [.inr (.inr (some 0)), .inl i] (cH a b v) (QC K (fun x a' v' => (a' 1 6 = a 1 6 ∧ a' 2 = a 2) ∧ (KPM (mrC a) (mrC a') ∧ LCK a v a' v') ∧ True)) := by
  have hR := RC.mono hI.1
  obtain ⟨L, h0, hL⟩ := hI.2.cty
  have w := s_X12_hyphen (K := K + 1) a b v L i hR h0 (by omega)
  refine f_call.mono (f_call.up (by omega) w) (fun r h9 q => ?_)
  obtain ⟨a1, v1, rfl, k1, f, x, rfl, p⟩ := q
  exact ⟨a1, b, v1, _, rfl, rfl, ⟨k1, VC.n5 hI.2 f.2.1.1 f.2.1.2 hL⟩, ⟨congrFun (f.1 1 (by simp only [List.mem_cons, List.not_mem_nil, or_false, not_or]; omega)) 6, f.1 2 (by simp only [List.mem_cons, List.not_mem_nil, or_false, not_or]; omega)⟩, ⟨(fun m9 h9 => congrFun (f.1 (206 + 8 * m9) (by simp only [List.mem_cons, List.not_mem_nil, or_false, not_or]; omega)) 10), (⟨f.2.1.1 0 (by decide), fun L9 _ hL9 c9 h9 => f.1 c9 (by simp only [List.mem_cons, List.not_mem_nil, or_false, not_or]; omega)⟩)⟩, trivial⟩
theorem pc_match {K : Nat} (hK : K ≤ 600) (a : Nat → Nat → Int32) (b : Nat → Nat → Int64) (v : Nat → Option Nat) (i : Int32) (hI : IC K a v) : f_call mtC 40 134 [.inr (.inr (some 0)), .inl i] (cH a b v) (QC K (fun x a' v' => (a' 1 6 = a 1 6 ∧ a' 2 = a 2) ∧ (KPM (mrC a) (mrC a') ∧ LCK a v a' v') ∧ True)) := by
  have hR := RC.mono hI.1
  obtain ⟨L, h0, hL⟩ := hI.2.cty
  have w := s_X12_match (K := K + 1) a b v L i hR h0 (by omega)
  refine f_call.mono (f_call.up (by omega) w) (fun r h9 q => ?_)
  obtain ⟨a1, v1, rfl, k1, f, x, rfl, p⟩ := q
  exact ⟨a1, b, v1, _, rfl, rfl, ⟨k1, VC.n5 hI.2 f.2.1.1 f.2.1.2 hL⟩, ⟨congrFun (f.1 1 (by simp only [List.mem_cons, List.not_mem_nil, or_false, not_or]; omega)) 6, f.1 2 (by simp only [List.mem_cons, List.not_mem_nil, or_false, not_or]; omega)⟩, ⟨(fun m9 h9 => congrFun (f.1 (206 + 8 * m9) (by simp only [List.mem_cons, List.not_mem_nil, or_false, not_or]; omega)) 10), (⟨f.2.1.1 0 (by decide), fun L9 _ hL9 c9 h9 => f.1 c9 (by simp only [List.mem_cons, List.not_mem_nil, or_false, not_or]; omega)⟩)⟩, trivial⟩
theorem pc_chain {K : Nat} (hK : K ≤ 600) (a : Nat → Nat → Int32) (b : Nat → Nat → Int64) (v : Nat → Option Nat) (i : Int32) (j : Int32) (k : Int32) (hI : IC K a v) : f_call mtC 40 135 [.inr (.inr (some 0)), .inl i, .inl j, .inl k] (cH a b v) (QC K (fun x a' v' => (a' 1 6 = a 1 6 ∧ a' 2 = a 2) ∧ (KPM (mrC a) (mrC a') ∧ LCK a v a' v') ∧ True)) := by
  have hR := RC.mono hI.1
  obtain ⟨L, h0, hL⟩ := hI.2.cty
  have w := s_X12_chain (K := K + 1) a b v L i j k hR h0 (by omega)
  refine f_call.mono (f_call.up (by omega) w) (fun r h9 q => ?_)
  obtain ⟨a1, rfl, k1, f, x, rfl, p⟩ := q
  exact ⟨a1, b, v, _, rfl, rfl, ⟨k1, hI.2⟩, ⟨congrFun (f.1 1 (by simp only [List.mem_cons, List.not_mem_nil, or_false, not_or]; omega)) 6, f.1 2 (by simp only [List.mem_cons, List.not_mem_nil, or_false, not_or]; omega)⟩, ⟨(fun m9 h9 => congrFun (f.1 (206 + 8 * m9) (by simp only [List.mem_cons, List.not_mem_nil, or_false, not_or]; omega)) 10), (⟨rfl, fun L9 _ hL9 c9 h9 => f.1 c9 (by simp only [List.mem_cons, List.not_mem_nil, or_false, not_or]; omega)⟩)⟩, trivial⟩
theorem pc_peace {K : Nat} (hK : K ≤ 600) (a : Nat → Nat → Int32) (b : Nat → Nat → Int64) (v : Nat → Option Nat)  (hI : IC K a v) : f_call mtC 40 140 [.inr (.inr (some 0))] (cH a b v) (QC K (fun x a' v' => (a' 1 6 = a 1 6 ∧ a' 2 = a 2) ∧ (KPM (mrC a) (mrC a') ∧ LCK a v a' v') ∧ True)) := by
  have hR := RC.mono hI.1
  obtain ⟨L, h0, hL⟩ := hI.2.cty
  have w := s_X12_peace (K := K + 1) a b v L  hR h0 (by omega)
  refine f_call.mono (f_call.up (by omega) w) (fun r h9 q => ?_)
  obtain ⟨a1, v1, rfl, k1, f, x, rfl, p⟩ := q
  exact ⟨a1, b, v1, _, rfl, rfl, ⟨k1, VC.n5 hI.2 f.2.1.1 f.2.1.2 hL⟩, ⟨congrFun (f.1 1 (by simp only [List.mem_cons, List.not_mem_nil, or_false, not_or]; omega)) 6, f.1 2 (by simp only [List.mem_cons, List.not_mem_nil, or_false, not_or]; omega)⟩, ⟨(fun m9 h9 => congrFun (f.1 (206 + 8 * m9) (by simp only [List.mem_cons, List.not_mem_nil, or_false, not_or]; omega)) 10), (⟨f.2.1.1 0 (by decide), fun L9 _ hL9 c9 h9 => f.1 c9 (by simp only [List.mem_cons, List.not_mem_nil, or_false, not_or]; omega)⟩)⟩, trivial⟩
theorem pc_cathedral {K : Nat} (hK : K ≤ 600) (a : Nat → Nat → Int32) (b : Nat → Nat → Int64) (v : Nat → Option Nat) (i : Int32) (hI : IC K a v) : f_call mtC 40 142 [.inr (.inr (some 0)), .inl i] (cH a b v) (QC K (fun x a' v' => (a' 1 6 = a 1 6 ∧ a' 2 = a 2) ∧ (KPM (mrC a) (mrC a') ∧ LCK a v a' v') ∧ True)) := by
  have hR := RC.mono hI.1
  obtain ⟨L, h0, hL⟩ := hI.2.cty
  have w := s_X12_cathedral (K := K + 1) a b v L i hR h0 (by omega)
  refine f_call.mono (f_call.up (by omega) w) (fun r h9 q => ?_)
  obtain ⟨a1, v1, rfl, k1, f, x, rfl, p⟩ := q
  exact ⟨a1, b, v1, _, rfl, rfl, ⟨k1, VC.n5 hI.2 f.2.1.1 f.2.1.2 hL⟩, ⟨congrFun (f.1 1 (by simp only [List.mem_cons, List.not_mem_nil, or_false, not_or]; omega)) 6, f.1 2 (by simp only [List.mem_cons, List.not_mem_nil, or_false, not_or]; omega)⟩, ⟨(fun m9 h9 => congrFun (f.1 (206 + 8 * m9) (by simp only [List.mem_cons, List.not_mem_nil, or_false, not_or]; omega)) 10), (⟨f.2.1.1 0 (by decide), fun L9 _ hL9 c9 h9 => f.1 c9 (by simp only [List.mem_cons, List.not_mem_nil, or_false, not_or]; omega)⟩)⟩, trivial⟩
theorem pc_eddies {K : Nat} (hK : K ≤ 600) (a : Nat → Nat → Int32) (b : Nat → Nat → Int64) (v : Nat → Option Nat)  (hI : IC K a v) : f_call mtC 40 143 [.inr (.inr (some 0))] (cH a b v) (QC K (fun x a' v' => (a' 1 6 = a 1 6 ∧ a' 2 = a 2) ∧ (KPM (mrC a) (mrC a') ∧ LCK a v a' v') ∧ True)) := by
  have hR := RC.mono hI.1
  obtain ⟨L, h0, hL⟩ := hI.2.cty
  have w := s_X12_eddies (K := K + 1) a b v L  hR h0 (by omega)
  refine f_call.mono (f_call.up (by omega) w) (fun r h9 q => ?_)
  obtain ⟨rfl, x, rfl, -⟩ := q
  exact ⟨a, b, v, x, rfl, rfl, ⟨hR, hI.2⟩, ⟨rfl, rfl⟩, ⟨KPM.rf, LCK.rf⟩, trivial⟩
theorem pc_worst {K : Nat} (hK : K ≤ 600) (a : Nat → Nat → Int32) (b : Nat → Nat → Int64) (v : Nat → Option Nat) (L : Nat) (h0 : v 0 = some L) (i : Int32) (j : Int32) (hI : IC K a v) (hg : 0 ≤ i.toInt ∧ i.toInt < (a L 7).toInt ∧ ¬ (a (L + 1 + 11 + 2 * i.toInt.toNat) 10).toInt = -1 ∧ 0 ≤ j.toInt ∧ j.toInt ≤ 1) : f_call mtC 40 144 [.inr (.inr (some 0)), .inl i, .inl j] (cH a b v) (QC K (fun x a' v' => (a' 1 6 = a 1 6 ∧ a' 2 = a 2) ∧ (KPM (mrC a) (mrC a') ∧ LCK a v a' v') ∧ True)) := by
  have hR := RC.mono hI.1
  have hL : L = 22 ∨ L = 46 := by obtain ⟨L1, e1, e2⟩ := hI.2.cty; rw [h0] at e1; cases e1; exact e2
  have w := s_X12_worst (K := K + 1) a b v L i j hR h0 (by omega) hg
  refine f_call.mono (f_call.up (by omega) w) (fun r h9 q => ?_)
  obtain ⟨a1, v1, rfl, k1, f, x, rfl, p⟩ := q
  exact ⟨a1, b, v1, _, rfl, rfl, ⟨k1, VC.n5 hI.2 f.2.1.1 f.2.1.2 hL⟩, ⟨congrFun (f.1 1 (by simp only [List.mem_cons, List.not_mem_nil, or_false, not_or]; omega)) 6, f.1 2 (by simp only [List.mem_cons, List.not_mem_nil, or_false, not_or]; omega)⟩, ⟨(fun m9 h9 => congrFun (f.1 (206 + 8 * m9) (by simp only [List.mem_cons, List.not_mem_nil, or_false, not_or]; omega)) 10), (⟨f.2.1.1 0 (by decide), fun L9 _ hL9 c9 h9 => f.1 c9 (by simp only [List.mem_cons, List.not_mem_nil, or_false, not_or]; omega)⟩)⟩, trivial⟩
theorem pc_share {K : Nat} (hK : K ≤ 600) (a : Nat → Nat → Int32) (b : Nat → Nat → Int64) (v : Nat → Option Nat) (i : Int32) (j : Int32) (k : Int32) (hI : IC K a v) : f_call mtC 40 145 [.inr (.inr (some 0)), .inl i, .inl j, .inl k] (cH a b v) (QC K (fun x a' v' => (a' 1 6 = a 1 6 ∧ a' 2 = a 2) ∧ (KPM (mrC a) (mrC a') ∧ LCK a v a' v') ∧ True)) := by
  have hR := RC.mono hI.1
  obtain ⟨L, h0, hL⟩ := hI.2.cty
  have w := s_X12_share (K := K + 1) a b v L i j k hR h0 (by omega)
  refine f_call.mono (f_call.up (by omega) w) (fun r h9 q => ?_)
  obtain ⟨a1, v1, rfl, k1, f, x, rfl, p⟩ := q
  exact ⟨a1, b, v1, _, rfl, rfl, ⟨k1, VC.n5 hI.2 f.2.1.1 f.2.1.2 hL⟩, ⟨congrFun (f.1 1 (by simp only [List.mem_cons, List.not_mem_nil, or_false, not_or]; omega)) 6, f.1 2 (by simp only [List.mem_cons, List.not_mem_nil, or_false, not_or]; omega)⟩, ⟨(fun m9 h9 => congrFun (f.1 (206 + 8 * m9) (by simp only [List.mem_cons, List.not_mem_nil, or_false, not_or]; omega)) 10), (⟨f.2.1.1 0 (by decide), fun L9 _ hL9 c9 h9 => f.1 c9 (by simp only [List.mem_cons, List.not_mem_nil, or_false, not_or]; omega)⟩)⟩, trivial⟩
theorem pc_storms {K : Nat} (hK : K ≤ 600) (a : Nat → Nat → Int32) (b : Nat → Nat → Int64) (v : Nat → Option Nat) (i : Int32) (j : Int32) (hI : IC K a v) : f_call mtC 40 147 [.inr (.inr (some 0)), .inl i, .inl j] (cH a b v) (QC K (fun x a' v' => (a' 1 6 = a 1 6 ∧ a' 2 = a 2) ∧ (KPM (mrC a) (mrC a') ∧ LCK a v a' v') ∧ True)) := by
  have hR := RC.mono hI.1
  obtain ⟨L, h0, hL⟩ := hI.2.cty
  have w := s_X12_storms (K := K + 1) a b v L i j hR h0 (by omega)
  refine f_call.mono (f_call.up (by omega) w) (fun r h9 q => ?_)
  obtain ⟨a1, v1, rfl, k1, f, x, rfl, p⟩ := q
  exact ⟨a1, b, v1, _, rfl, rfl, ⟨k1, VC.n5 hI.2 f.2.1.1 f.2.1.2 hL⟩, ⟨congrFun (f.1 1 (by simp only [List.mem_cons, List.not_mem_nil, or_false, not_or]; omega)) 6, f.1 2 (by simp only [List.mem_cons, List.not_mem_nil, or_false, not_or]; omega)⟩, ⟨(fun m9 h9 => congrFun (f.1 (206 + 8 * m9) (by simp only [List.mem_cons, List.not_mem_nil, or_false, not_or]; omega)) 10), (⟨f.2.1.1 0 (by decide), fun L9 _ hL9 c9 h9 => f.1 c9 (by simp only [List.mem_cons, List.not_mem_nil, or_false, not_or]; omega)⟩)⟩, trivial⟩
theorem pc_walls {K : Nat} (hK : K ≤ 600) (a : Nat → Nat → Int32) (b : Nat → Nat → Int64) (v : Nat → Option Nat) (i : Int32) (j : Int32) (k : Int32) (hI : IC K a v) : f_call mtC 40 148 [.inr (.inr (some 0)), .inl i, .inl j, .inl k] (cH a b v) (QC K (fun x a' v' => (a' 1 6 = a 1 6 ∧ a' 2 = a 2) ∧ (KPM (mrC a) (mrC a') ∧ LCK a v a' v') ∧ True)) := by
  have hR := RC.mono hI.1
  obtain ⟨L, h0, hL⟩ := hI.2.cty
  have w := s_X12_walls (K := K + 1) a b v L i j k hR h0 (by omega)
  refine f_call.mono (f_call.up (by omega) w) (fun r h9 q => ?_)
  obtain ⟨a1, v1, rfl, k1, f, x, rfl, p⟩ := q
  exact ⟨a1, b, v1, _, rfl, rfl, ⟨k1, VC.n5 hI.2 f.2.1.1 f.2.1.2 hL⟩, ⟨congrFun (f.1 1 (by simp only [List.mem_cons, List.not_mem_nil, or_false, not_or]; omega)) 6, f.1 2 (by simp only [List.mem_cons, List.not_mem_nil, or_false, not_or]; omega)⟩, ⟨(fun m9 h9 => congrFun (f.1 (206 + 8 * m9) (by simp only [List.mem_cons, List.not_mem_nil, or_false, not_or]; omega)) 10), (⟨f.2.1.1 0 (by decide), fun L9 _ hL9 c9 h9 => f.1 c9 (by simp only [List.mem_cons, List.not_mem_nil, or_false, not_or]; omega)⟩)⟩, trivial⟩
theorem pc_tell {K : Nat} (hK : K ≤ 600) (a : Nat → Nat → Int32) (b : Nat → Nat → Int64) (v : Nat → Option Nat) (i : Int32) (j : Int32) (k : Int32) (hI : IC K a v) : f_call mtC 40 149 [.inr (.inr (some 0)), .inl i, .inl j, .inl k] (cH a b v) (QC K (fun x a' v' => (a' 1 6 = a 1 6 ∧ a' 2 = a 2) ∧ (KPM (mrC a) (mrC a') ∧ LCK a v a' v') ∧ True)) := by
  have hR := RC.mono hI.1
  obtain ⟨L, h0, hL⟩ := hI.2.cty
  have w := s_X12_tell (K := K + 1) a b v L i j k hR h0 (by omega)
  refine f_call.mono (f_call.up (by omega) w) (fun r h9 q => ?_)
  obtain ⟨a1, rfl, k1, f, x, rfl, p⟩ := q
  exact ⟨a1, b, v, _, rfl, rfl, ⟨k1, hI.2⟩, ⟨congrFun (f.1 1 (by simp only [List.mem_cons, List.not_mem_nil, or_false, not_or]; omega)) 6, f.1 2 (by simp only [List.mem_cons, List.not_mem_nil, or_false, not_or]; omega)⟩, ⟨(fun m9 h9 => congrFun (f.1 (206 + 8 * m9) (by simp only [List.mem_cons, List.not_mem_nil, or_false, not_or]; omega)) 10), (⟨rfl, fun L9 _ hL9 c9 h9 => f.1 c9 (by simp only [List.mem_cons, List.not_mem_nil, or_false, not_or]; omega)⟩)⟩, trivial⟩
theorem pc_found {K : Nat} (hK : K ≤ 600) (a : Nat → Nat → Int32) (b : Nat → Nat → Int64) (v : Nat → Option Nat) (i : Int32) (hI : IC K a v) : f_call mtC 40 150 [.inr (.inr (some 0)), .inl i] (cH a b v) (QC K (fun x a' v' => (a' 1 6 = a 1 6 ∧ a' 2 = a 2) ∧ (KPM (mrC a) (mrC a') ∧ LCK a v a' v') ∧ True)) := by
  have hR := RC.mono hI.1
  obtain ⟨L, h0, hL⟩ := hI.2.cty
  have w := s_X12_found (K := K + 1) a b v L i hR h0 (by omega)
  refine f_call.mono (f_call.up (by omega) w) (fun r h9 q => ?_)
  obtain ⟨a1, v1, rfl, k1, f, x, rfl, p⟩ := q
  exact ⟨a1, b, v1, _, rfl, rfl, ⟨k1, VC.n5 hI.2 f.2.1.1 f.2.1.2 hL⟩, ⟨congrFun (f.1 1 (by simp only [List.mem_cons, List.not_mem_nil, or_false, not_or]; omega)) 6, f.1 2 (by simp only [List.mem_cons, List.not_mem_nil, or_false, not_or]; omega)⟩, ⟨(fun m9 h9 => congrFun (f.1 (206 + 8 * m9) (by simp only [List.mem_cons, List.not_mem_nil, or_false, not_or]; omega)) 10), (⟨f.2.1.1 0 (by decide), fun L9 _ hL9 c9 h9 => f.1 c9 (by simp only [List.mem_cons, List.not_mem_nil, or_false, not_or]; omega)⟩)⟩, trivial⟩
theorem pc_rests {K : Nat} (hK : K ≤ 600) (a : Nat → Nat → Int32) (b : Nat → Nat → Int64) (v : Nat → Option Nat) (i : Int32) (j : Int32) (k : Int32) (p9 : Int32) (hI : IC K a v) : f_call mtC 40 151 [.inr (.inr (some 0)), .inl i, .inl j, .inl k, .inl p9] (cH a b v) (QC K (fun x a' v' => (a' 1 6 = a 1 6 ∧ a' 2 = a 2) ∧ (KPM (mrC a) (mrC a') ∧ LCK a v a' v') ∧ True)) := by
  have hR := RC.mono hI.1
  obtain ⟨L, h0, hL⟩ := hI.2.cty
  have w := s_X12_rests (K := K + 1) a b v L i j k p9 hR h0 (by omega)
  refine f_call.mono (f_call.up (by omega) w) (fun r h9 q => ?_)
  obtain ⟨a1, v1, rfl, k1, f, x, rfl, p⟩ := q
  exact ⟨a1, b, v1, _, rfl, rfl, ⟨k1, VC.n5 hI.2 f.2.1.1 f.2.1.2 hL⟩, ⟨congrFun (f.1 1 (by simp only [List.mem_cons, List.not_mem_nil, or_false, not_or]; omega)) 6, f.1 2 (by simp only [List.mem_cons, List.not_mem_nil, or_false, not_or]; omega)⟩, ⟨(fun m9 h9 => congrFun (f.1 (206 + 8 * m9) (by simp only [List.mem_cons, List.not_mem_nil, or_false, not_or]; omega)) 10), (⟨f.2.1.1 0 (by decide), fun L9 _ hL9 c9 h9 => f.1 c9 (by simp only [List.mem_cons, List.not_mem_nil, or_false, not_or]; omega)⟩)⟩, trivial⟩
theorem pc_dams {K : Nat} (hK : K ≤ 600) (a : Nat → Nat → Int32) (b : Nat → Nat → Int64) (v : Nat → Option Nat) (i : Int32) (j : Int32) (k : Int32) (hI : IC K a v) : f_call mtC 40 153 [.inr (.inr (some 0)), .inl i, .inl j, .inl k] (cH a b v) (QC K (fun x a' v' => (a' 1 6 = a 1 6 ∧ a' 2 = a 2) ∧ (KPM (mrC a) (mrC a') ∧ LCK a v a' v') ∧ True)) := by
  have hR := RC.mono hI.1
  obtain ⟨L, h0, hL⟩ := hI.2.cty
  have w := s_X12_dams (K := K + 1) a b v L i j k hR h0 (by omega)
  refine f_call.mono (f_call.up (by omega) w) (fun r h9 q => ?_)
  obtain ⟨rfl, x, rfl, -⟩ := q
  exact ⟨a, b, v, x, rfl, rfl, ⟨hR, hI.2⟩, ⟨rfl, rfl⟩, ⟨KPM.rf, LCK.rf⟩, trivial⟩
theorem pc_centuries {K : Nat} (hK : K ≤ 600) (a : Nat → Nat → Int32) (b : Nat → Nat → Int64) (v : Nat → Option Nat) (i : Int32) (j : Int32) (k : Int32) (hI : IC K a v) : f_call mtC 40 155 [.inr (.inr (some 0)), .inl i, .inl j, .inl k] (cH a b v) (QC K (fun x a' v' => (a' 1 6 = a 1 6 ∧ a' 2 = a 2) ∧ (KPM (mrC a) (mrC a') ∧ LCK a v a' v') ∧ True)) := by
  have hR := RC.mono hI.1
  obtain ⟨L, h0, hL⟩ := hI.2.cty
  have w := s_X12_centuries (K := K + 1) a b v L i j k hR h0 (by omega)
  refine f_call.mono (f_call.up (by omega) w) (fun r h9 q => ?_)
  obtain ⟨a1, v1, rfl, k1, f, x, rfl, p⟩ := q
  exact ⟨a1, b, v1, _, rfl, rfl, ⟨k1, VC.n5 hI.2 f.2.1.1 f.2.1.2 hL⟩, ⟨congrFun (f.1 1 (by simp only [List.mem_cons, List.not_mem_nil, or_false, not_or]; omega)) 6, f.1 2 (by simp only [List.mem_cons, List.not_mem_nil, or_false, not_or]; omega)⟩, ⟨(fun m9 h9 => congrFun (f.1 (206 + 8 * m9) (by simp only [List.mem_cons, List.not_mem_nil, or_false, not_or]; omega)) 10), (⟨f.2.1.1 0 (by decide), fun L9 _ hL9 c9 h9 => f.1 c9 (by simp only [List.mem_cons, List.not_mem_nil, or_false, not_or]; omega)⟩)⟩, trivial⟩
theorem pc_count {K : Nat} (hK : K ≤ 600) (a : Nat → Nat → Int32) (b : Nat → Nat → Int64) (v : Nat → Option Nat) (i : Int32) (hI : IC K a v) : f_call mtC 40 159 [.inr (.inr (some 0)), .inl i] (cH a b v) (QC K (fun x a' v' => (a' 1 6 = a 1 6 ∧ a' 2 = a 2) ∧ (KPM (mrC a) (mrC a') ∧ LCK a v a' v') ∧ True)) := by
  have hR := RC.mono hI.1
  obtain ⟨L, h0, hL⟩ := hI.2.cty
  have w := s_X12_count (K := K + 1) a b v L i hR h0 (by omega)
  refine f_call.mono (f_call.up (by omega) w) (fun r h9 q => ?_)
  obtain ⟨a1, v1, rfl, k1, f, x, rfl, p⟩ := q
  exact ⟨a1, b, v1, _, rfl, rfl, ⟨k1, VC.n5 hI.2 f.2.1.1 f.2.1.2 hL⟩, ⟨congrFun (f.1 1 (by simp only [List.mem_cons, List.not_mem_nil, or_false, not_or]; omega)) 6, f.1 2 (by simp only [List.mem_cons, List.not_mem_nil, or_false, not_or]; omega)⟩, ⟨(fun m9 h9 => congrFun (f.1 (206 + 8 * m9) (by simp only [List.mem_cons, List.not_mem_nil, or_false, not_or]; omega)) 10), (⟨f.2.1.1 0 (by decide), fun L9 _ hL9 c9 h9 => f.1 c9 (by simp only [List.mem_cons, List.not_mem_nil, or_false, not_or]; omega)⟩)⟩, trivial⟩
