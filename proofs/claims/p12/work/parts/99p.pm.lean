-- the model between two calls: K of them are behind
theorem stHi_up {K j : Nat} : stHi K j ≤ stHi (K + 1) j := by
  unfold stHi
  (repeat' split) <;> omega
theorem hiM_up {K j : Nat} (c : Nat) : hiM K c j ≤ hiM (K + 1) c j := by
  by_cases h : c = 15
  · subst h
    exact stHi_up
  · unfold hiM
    split <;> first | exact absurd rfl h | exact Int.le_refl _
theorem f_call.up {mt : Nat → Option f_T} {d0 d1 m : Nat} {as : List f_V} {h : f_H} {Q : Option f_V → f_H → Prop} (hd : d0 ≤ d1) (w : f_call mt d0 m as h Q) : f_call mt d1 m as h Q := fun d h9 => w d (Nat.le_trans hd h9)
theorem RM.mono {K : Nat} {a : Nat → Nat → Int32} (h : RM K a) : RM (K + 1) a := fun c j => ⟨(h c j).1, Int.le_trans (h c j).2 (hiM_up c)⟩
-- the states that may come back: now, the undos below their count, what is marked
def LVA (a : Nat → Nat → Int32) : Prop := AC a 0 ∧ (∀ k : Nat, (k : Int) < (a 0 23).toInt → AC a (60 * (5 + k))) ∧ (∀ m9 : Nat, m9 < 4 → (a 16 m9).toInt ≠ 0 → AC a (60 * (1 + m9)))
theorem LVA.u16 {a : Nat → Nat → Int32} (h : LVA a) : (a 0 23).toInt = 16 → ∀ m, m < 16 → AC a (60 * (5 + m)) := fun e m hm => h.2.1 m (by omega)
theorem LVA.fr {cs : List Nat} {a a' : Nat → Nat → Int32} (h : LVA a) (hf : FR cs a a') (h15 : 15 ∉ cs) (h16 : 16 ∉ cs) (h23 : a' 0 23 = a 0 23) : LVA a' := ⟨AC.same h.1 (fun r _ => by rw [hf 15 h15]), fun k hk => AC.same (h.2.1 k (by rw [h23] at hk; exact hk)) (fun r _ => by rw [hf 15 h15]), fun m hm h9 => AC.same (h.2.2 m hm (by rw [hf 16 h16] at h9; exact h9)) (fun r _ => by rw [hf 15 h15])⟩
theorem LVA.pw {K : Nat} {a a' : Nat → Nat → Int32} (h : LVA a) (hR : RM K a') (p : ∀ m9, m9 < 21 → ACm m9 a → ACm m9 a') (h23 : (a' 0 23).toInt ≤ (a 0 23).toInt) (h16 : ∀ m9 : Nat, m9 < 4 → (a' 16 m9).toInt ≠ 0 → (a 16 m9).toInt ≠ 0 ∨ AC a' (60 * (1 + m9))) : LVA a' := by
  have q : 0 ≤ (a' 0 23).toInt ∧ (a' 0 23).toInt ≤ 16 := hR 0 23
  exact ⟨p 0 (by decide) h.1, fun k hk => p (5 + k) (by omega) (h.2.1 k (by omega)), fun m hm h9 => (h16 m hm h9).elim (fun g => p (1 + m) (by omega) (h.2.2 m hm g)) id⟩
theorem LVA.ux {K : Nat} {a a' : Nat → Nat → Int32} (h : LVA a) (hR : RM K a') (p : ∀ m9, m9 < 22 → ACm m9 a → ACm m9 a') (u : UX a a') (h16 : a' 16 = a 16) : LVA a' := by
  have q : 0 ≤ (a' 0 23).toInt ∧ (a' 0 23).toInt ≤ 16 := hR 0 23
  refine ⟨p 0 (by decide) h.1, fun k hk => ?_, fun m hm h9 => p (1 + m) (by omega) (h.2.2 m hm (by rw [h16] at h9; exact h9))⟩
  rcases u with u | ⟨u1, u2, u3⟩
  · exact p (5 + k) (by omega) (h.2.1 k (by omega))
  · by_cases e : (k : Int) + 1 = (a' 0 23).toInt
    · exact AC.at u3 (by omega)
    · exact p (5 + k) (by omega) (h.2.1 k (by omega))
def IM (K : Nat) (a : Nat → Nat → Int32) : Prop := RM K a ∧ LVA a ∧ CDI a ∧ LNI a
def QM (K : Nat) (a : Nat → Nat → Int32) (b : Nat → Nat → Int64) (P : Int32 → (Nat → Nat → Int32) → Prop) : Option f_V → f_H → Prop := fun r h' => ∃ (a' : Nat → Nat → Int32) (b' : Nat → Nat → Int64) (x : Int32), h' = mH a' b' ∧ r = some (.inl x) ∧ IM (K + 1) a' ∧ b' 5 = b 5 ∧ P x a'
theorem f_n50 : f_n5 (.inr (.inr (some 0))) := by
  unfold f_n5
  decide
theorem f_5n : ∀ v ∈ ([] : List f_V), f_n5 v := fun _ h => nomatch h
theorem pm_feed {K : Nat} (hK : K ≤ 600) (a : Nat → Nat → Int32) (b : Nat → Nat → Int64) (L_a : Int64) (L_b : Int64) (L_c : Int64) (hI : IM K a) : f_call mtM 40 0 [.inr (.inr (some 0)), .inr (.inl L_a), .inr (.inl L_b), .inr (.inl L_c)] (mH a b) (QM K a b (fun x a' => TL (a' 1) (a' 0 2).toInt.toNat = gMl L_c (gMl L_b (gMl L_a (TL (a 1) (a 0 2).toInt.toNat) 8) 8) 8 ∧ (KPM (a 16) (a' 16) ∧ LMK a a') ∧ True)) := by
  have hR := RM.mono hI.1
  have w := s_feed_2 (K := K + 1) a b  L_a L_b L_c hR 
  have w := f_call.mono (k3_call (by decide) w) (fun r h9 q => And.comm.mp q)
  have w5 := k5_call (by decide) (f_5c f_n50 (f_5c f_n5l (f_5c f_n5l (f_5c f_n5l f_5n)))) w
  refine f_call.mono (f_call.up (by omega) w5) (fun r h9 q => ?_)
  obtain ⟨q, z5⟩ := q
  obtain ⟨z3, a1, rfl, h1, f, x, rfl, p⟩ := q
  exact ⟨a1, b, _, rfl, rfl, ⟨h1, LVA.fr hI.2.1 f.1 (by decide) (by decide) z3, hI.2.2.1.fr f.1 (by decide) (by decide) (by decide), hI.2.2.2.same hR (fun j _ => by rw [f.1 11 (by decide)])⟩, z5, f.2, ⟨(fun m9 _ => congrFun (f.1 16 (by decide)) m9), (fun j9 _ => congrFun (f.1 6 (by decide)) j9)⟩, trivial⟩
theorem pm_land {K : Nat} (hK : K ≤ 600) (a : Nat → Nat → Int32) (b : Nat → Nat → Int64)  (hI : IM K a) (hw5 : MW b) (t : Nat → Int32) (ht : ∀ j, j < (a 0 2).toInt.toNat → a 1 j = t j) : f_call mtM 40 22 [.inr (.inr (some 0))] (mH a b) (QM K a b (fun x a' => (a' 0 2).toInt = 0 ∧ (LNK x (a 16) (a' 16) ∧ (¬ x.toInt = 0 → LMK a a')) ∧ ∃ s : LDS, LD t (a 0 2).toInt.toNat ld0 (x.toInt, s) ∧ (x.toInt = 0 → LRL s.2.1 a'))) := by
  have hR := RM.mono hI.1
  have w := s_land (K := K + 1) a b   hR hI.2.2.1 hI.2.2.2
  have w := f_call.mono (kq_call w) (fun r h9 q => And.comm.mp q)
  have w5 := k5_call (by decide) (f_5c f_n50  f_5n) w
  have y := f_call.pcd (f_call.up (d1 := 40) (by omega) w5) (fun d hd => y_land (d := d) a b (K + 1) (a 0 2).toInt.toNat t hd hR hw5 ht rfl)
  refine f_call.mono y (fun r9 h9 q => ?_)
  obtain ⟨q, y⟩ := q
  have y : ∃ x : Int32, r9 = some (.inl x) ∧ (LNK x (a 16) (h9.1 16) ∧ (¬ x.toInt = 0 → LMK a h9.1)) ∧ ∃ s : LDS, LD t (a 0 2).toInt.toNat ld0 (x.toInt, s) ∧ (x.toInt = 0 → LRL s.2.1 h9.1) := by obtain ⟨a2, b2, e2, y1, x2, y2, ⟨y3, y4⟩, s2, y5, y6⟩ := y; subst e2; exact ⟨x2, y2, ⟨⟨fun h => (y3 h).2.2, fun h m _ => congrFun ((y4 h).1 16 (Or.inr (Or.inr rfl))) m⟩, fun h => (y4 h).2⟩, s2, y5, fun h => (y6 h).1⟩
  obtain ⟨x9, ex9, hy9⟩ := y
  subst ex9
  obtain ⟨q, z5⟩ := q
  obtain ⟨z4, a1, b1, rfl, h1, f, x, ex, p⟩ := q
  cases ex
  exact ⟨a1, b1, _, rfl, rfl, ⟨h1, LVA.pw hI.2.1 h1 (fun m9 l9 h7 => f.2.1 m9 (by omega) h7) (z4.elim (fun e => Int.le_of_eq (congrArg Int32.toInt e)) (fun e => by have g9 : 0 ≤ (a 0 23).toInt := (hI.1 0 23).1; have e1 : a1 0 23 = 0 := e; rw [e1]; exact g9)) (fun m9 l9 h9 => Or.inl (f.2.2.2.2.2 m9 l9 h9)), f.2.2.1, f.2.2.2.1⟩, z5, f.2.2.2.2.1, ⟨hy9.1.1, hy9.1.2⟩, hy9.2⟩
theorem pm_vows {K : Nat} (hK : K ≤ 600) (a : Nat → Nat → Int32) (b : Nat → Nat → Int64)  (hI : IM K a) : f_call mtM 40 27 [.inr (.inr (some 0))] (mH a b) (QM K a b (fun x a' => (a' 0 2).toInt = 0 ∧ (KPM (a 16) (a' 16) ∧ LMK a a') ∧ True)) := by
  have hR := RM.mono hI.1
  have w := s_vows (K := K + 1) a b   hR hI.2.2.2
  have w := f_call.mono (k3_call (by decide) w) (fun r h9 q => And.comm.mp q)
  have w5 := k5_call (by decide) (f_5c f_n50  f_5n) w
  refine f_call.mono (f_call.up (by omega) w5) (fun r h9 q => ?_)
  obtain ⟨q, z5⟩ := q
  obtain ⟨z3, a1, b1, rfl, h1, f, x, rfl, p⟩ := q
  exact ⟨a1, b1, _, rfl, rfl, ⟨h1, LVA.fr hI.2.1 f.1 (by decide) (by decide) z3, hI.2.2.1.fr f.1 (by decide) (by decide) (by decide), f.2.1⟩, z5, f.2.2, ⟨(fun m9 _ => congrFun (f.1 16 (by decide)) m9), (fun j9 _ => congrFun (f.1 6 (by decide)) j9)⟩, trivial⟩
theorem pm_will {K : Nat} (hK : K ≤ 600) (a : Nat → Nat → Int32) (b : Nat → Nat → Int64)  (hI : IM K a) (hw5 : MW b) : f_call mtM 40 28 [.inr (.inr (some 0))] (mH a b) (QM K a b (fun x a' => (a' 0 2).toInt = 0 ∧ (KPM (a 16) (a' 16) ∧ LMK a a') ∧ x.toInt = wlF (a 1) (a 0 2).toInt.toNat 8 0 0)) := by
  have hR := RM.mono hI.1
  have w := s_will_9 (K := K + 1) a b (a 0 2).toInt.toNat (a 1)  hR rfl rfl hw5
  have w := f_call.mono (k3_call (by decide) w) (fun r h9 q => And.comm.mp q)
  have w5 := k5_call (by decide) (f_5c f_n50  f_5n) w
  refine f_call.mono (f_call.up (by omega) w5) (fun r h9 q => ?_)
  obtain ⟨q, z5⟩ := q
  obtain ⟨z3, a1, b1, rfl, h1, f, x, rfl, p⟩ := q
  exact ⟨a1, b1, _, rfl, rfl, ⟨h1, LVA.pw hI.2.1 h1 (fun m9 l9 h7 => f.2.1 m9 (by omega) h7) (Int.le_of_eq (congrArg Int32.toInt z3)) (fun m9 _ h9 => Or.inl (by rw [f.1 16 (by decide)] at h9; exact h9)), hI.2.2.1.fr f.1 (by decide) (by decide) (by decide), hI.2.2.2.same hR (fun j _ => by rw [f.1 11 (by decide)])⟩, z5, f.2.2.1, ⟨(fun m9 _ => congrFun (f.1 16 (by decide)) m9), (fun j9 _ => congrFun (f.1 6 (by decide)) j9)⟩, p⟩
theorem pm_river {K : Nat} (hK : K ≤ 600) (a : Nat → Nat → Int32) (b : Nat → Nat → Int64) (r : Int32) (w : Int32) (hI : IM K a) : f_call mtM 40 59 [.inr (.inr (some 0)), .inl r, .inl w] (mH a b) (QM K a b (fun x a' => (a' 0 2 = a 0 2 ∧ a' 1 = a 1) ∧ (KPM (a 16) (a' 16) ∧ LMK a a') ∧ True)) := by
  have hR := RM.mono hI.1
  have w := s_river (K := K + 1) a b  r w hR 
  have w := f_call.mono (k3_call (by decide) w) (fun r h9 q => And.comm.mp q)
  have w2 := k_call (by decide) w
  have w5 := k5_call (by decide) (f_5c f_n50 (f_5c f_n5i (f_5c f_n5i f_5n))) w2
  refine f_call.mono (f_call.up (by omega) w5) (fun r h9 q => ?_)
  obtain ⟨q, z5⟩ := q
  obtain ⟨⟨z3, a1, rfl, h1, f, x, rfl, p⟩, z⟩ := q
  exact ⟨a1, b, _, rfl, rfl, ⟨h1, LVA.fr hI.2.1 f.1 (by decide) (by decide) z3, hI.2.2.1.fr f.1 (by decide) (by decide) (by decide), hI.2.2.2.same hR (fun j _ => by rw [f.1 11 (by decide)])⟩, z5, ⟨z, f.1 1 (by decide)⟩, ⟨(fun m9 _ => congrFun (f.1 16 (by decide)) m9), (fun j9 _ => congrFun (f.1 6 (by decide)) j9)⟩, trivial⟩
theorem pm_flow {K : Nat} (hK : K ≤ 600) (a : Nat → Nat → Int32) (b : Nat → Nat → Int64) (r : Int32) (e : Int32) (s : Int32) (hI : IM K a) : f_call mtM 40 60 [.inr (.inr (some 0)), .inl r, .inl e, .inl s] (mH a b) (QM K a b (fun x a' => (a' 0 2 = a 0 2 ∧ a' 1 = a 1) ∧ (KPM (a 16) (a' 16) ∧ LMK a a') ∧ True)) := by
  have hR := RM.mono hI.1
  have w := s_flow (K := K + 1) a b  r e s hR hI.2.1.1
  have w := f_call.mono (k3_call (by decide) w) (fun r h9 q => And.comm.mp q)
  have w2 := k_call (by decide) w
  have w5 := k5_call (by decide) (f_5c f_n50 (f_5c f_n5i (f_5c f_n5i (f_5c f_n5i f_5n)))) w2
  refine f_call.mono (f_call.up (by omega) w5) (fun r h9 q => ?_)
  obtain ⟨q, z5⟩ := q
  obtain ⟨⟨z3, a1, rfl, h1, f, x, rfl, p⟩, z⟩ := q
  exact ⟨a1, b, _, rfl, rfl, ⟨h1, LVA.fr hI.2.1 f.1 (by decide) (by decide) z3, hI.2.2.1.fr f.1 (by decide) (by decide) (by decide), hI.2.2.2.same hR (fun j _ => by rw [f.1 11 (by decide)])⟩, z5, ⟨z, f.1 1 (by decide)⟩, ⟨(fun m9 _ => congrFun (f.1 16 (by decide)) m9), (fun j9 _ => congrFun (f.1 6 (by decide)) j9)⟩, trivial⟩
theorem pm_needs {K : Nat} (hK : K ≤ 600) (a : Nat → Nat → Int32) (b : Nat → Nat → Int64) (w : Int32) (hI : IM K a) : f_call mtM 40 61 [.inr (.inr (some 0)), .inl w] (mH a b) (QM K a b (fun x a' => (a' 0 2 = a 0 2 ∧ a' 1 = a 1) ∧ (KPM (a 16) (a' 16) ∧ LMK a a') ∧ True)) := by
  have hR := RM.mono hI.1
  have w := s_needs (K := K + 1) a b  w hR hI.2.1.1
  have w := f_call.mono (k3_call (by decide) w) (fun r h9 q => And.comm.mp q)
  have w2 := k_call (by decide) w
  have w5 := k5_call (by decide) (f_5c f_n50 (f_5c f_n5i f_5n)) w2
  refine f_call.mono (f_call.up (by omega) w5) (fun r h9 q => ?_)
  obtain ⟨q, z5⟩ := q
  obtain ⟨⟨z3, a1, rfl, h1, f, x, rfl, p⟩, z⟩ := q
  exact ⟨a1, b, _, rfl, rfl, ⟨h1, LVA.fr hI.2.1 f.1 (by decide) (by decide) z3, hI.2.2.1.fr f.1 (by decide) (by decide) (by decide), hI.2.2.2.same hR (fun j _ => by rw [f.1 11 (by decide)])⟩, z5, ⟨z, f.1 1 (by decide)⟩, ⟨(fun m9 _ => congrFun (f.1 16 (by decide)) m9), (fun j9 _ => congrFun (f.1 6 (by decide)) j9)⟩, trivial⟩
theorem pm_near {K : Nat} (hK : K ≤ 600) (a : Nat → Nat → Int32) (b : Nat → Nat → Int64) (r : Int32) (s : Int32) (hI : IM K a) (V : Nat → Int) (hV : LRL V a) (hG : GV V) : f_call mtM 40 63 [.inr (.inr (some 0)), .inl r, .inl s] (mH a b) (QM K a b (fun x a' => (a' 0 2 = a 0 2 ∧ a' 1 = a 1) ∧ (KPM (a 16) (a' 16) ∧ LMK a a') ∧ NEARR V r s x)) := by
  have hR := RM.mono hI.1
  have w := s_near (K := K + 1) a b  r s hR 
  have w := f_call.mono (k3_call (by decide) w) (fun r h9 q => And.comm.mp q)
  have w2 := k_call (by decide) w
  have w5 := k5_call (by decide) (f_5c f_n50 (f_5c f_n5i (f_5c f_n5i f_5n))) w2
  have y := f_call.pcd (f_call.up (d1 := 40) (by omega) w5) (fun d hd => y_near (d := d) a b V r s hV hG)
  refine f_call.mono y (fun r9 h9 q => ?_)
  obtain ⟨q, y⟩ := q
  have y : ∃ x : Int32, r9 = some (.inl x) ∧ NEARR V r s x := by obtain ⟨a2, e2, y1, x2, y2, y3⟩ := y; exact ⟨x2, y2, y3⟩
  obtain ⟨x9, ex9, hy9⟩ := y
  subst ex9
  obtain ⟨q, z5⟩ := q
  obtain ⟨⟨z3, a1, rfl, h1, f, x, ex, p⟩, z⟩ := q
  cases ex
  exact ⟨a1, b, _, rfl, rfl, ⟨h1, LVA.fr hI.2.1 f.1 (by decide) (by decide) z3, hI.2.2.1.fr f.1 (by decide) (by decide) (by decide), hI.2.2.2.same hR (fun j _ => by rw [f.1 11 (by decide)])⟩, z5, ⟨z, f.1 1 (by decide)⟩, ⟨(fun m9 _ => congrFun (f.1 16 (by decide)) m9), (fun j9 _ => congrFun (f.1 6 (by decide)) j9)⟩, hy9⟩
theorem pm_dig {K : Nat} (hK : K ≤ 600) (a : Nat → Nat → Int32) (b : Nat → Nat → Int64) (r : Int32) (s : Int32) (hI : IM K a) (V : Nat → Int) (hV : LRL V a) (hG : GV V) : f_call mtM 40 66 [.inr (.inr (some 0)), .inl r, .inl s] (mH a b) (QM K a b (fun x a' => (a' 0 2 = a 0 2 ∧ a' 1 = a 1) ∧ (KPM (a 16) (a' 16) ∧ LMK a a') ∧ DIGR V r s x)) := by
  have hR := RM.mono hI.1
  have w := s_dig (K := K + 1) a b  r s hR 
  have w := f_call.mono (k3_call (by decide) w) (fun r h9 q => And.comm.mp q)
  have w2 := k_call (by decide) w
  have w5 := k5_call (by decide) (f_5c f_n50 (f_5c f_n5i (f_5c f_n5i f_5n))) w2
  have y := f_call.pcd (f_call.up (d1 := 40) (by omega) w5) (fun d hd => y_dig (d := d) a b V r s hV hG)
  refine f_call.mono y (fun r9 h9 q => ?_)
  obtain ⟨q, y⟩ := q
  have y : ∃ x : Int32, r9 = some (.inl x) ∧ DIGR V r s x := by obtain ⟨a2, e2, y1, x2, y2, y3⟩ := y; exact ⟨x2, y2, y3⟩
  obtain ⟨x9, ex9, hy9⟩ := y
  subst ex9
  obtain ⟨q, z5⟩ := q
  obtain ⟨⟨z3, a1, rfl, h1, f, x, ex, p⟩, z⟩ := q
  cases ex
  exact ⟨a1, b, _, rfl, rfl, ⟨h1, LVA.fr hI.2.1 f.1 (by decide) (by decide) z3, hI.2.2.1.fr f.1 (by decide) (by decide) (by decide), hI.2.2.2.same hR (fun j _ => by rw [f.1 11 (by decide)])⟩, z5, ⟨z, f.1 1 (by decide)⟩, ⟨(fun m9 _ => congrFun (f.1 16 (by decide)) m9), (fun j9 _ => congrFun (f.1 6 (by decide)) j9)⟩, hy9⟩
theorem pm_may {K : Nat} (hK : K ≤ 600) (a : Nat → Nat → Int32) (b : Nat → Nat → Int64) (r : Int32) (hI : IM K a) : f_call mtM 40 69 [.inr (.inr (some 0)), .inl r] (mH a b) (QM K a b (fun x a' => (a' 0 2 = a 0 2 ∧ a' 1 = a 1) ∧ (KPM (a 16) (a' 16) ∧ LMK a a') ∧ True)) := by
  have hR := RM.mono hI.1
  have w := s_may (K := K + 1) a b  r hR hI.2.1.1
  have w := f_call.mono (k3_call (by decide) w) (fun r h9 q => And.comm.mp q)
  have w2 := k_call (by decide) w
  have w5 := k5_call (by decide) (f_5c f_n50 (f_5c f_n5i f_5n)) w2
  refine f_call.mono (f_call.up (by omega) w5) (fun r h9 q => ?_)
  obtain ⟨q, z5⟩ := q
  obtain ⟨⟨z3, a1, rfl, h1, f, x, rfl, p⟩, z⟩ := q
  exact ⟨a1, b, _, rfl, rfl, ⟨h1, LVA.fr hI.2.1 f.1 (by decide) (by decide) z3, hI.2.2.1.fr f.1 (by decide) (by decide) (by decide), hI.2.2.2.same hR (fun j _ => by rw [f.1 11 (by decide)])⟩, z5, ⟨z, f.1 1 (by decide)⟩, ⟨(fun m9 _ => congrFun (f.1 16 (by decide)) m9), (fun j9 _ => congrFun (f.1 6 (by decide)) j9)⟩, trivial⟩
theorem pm_ends {K : Nat} (hK : K ≤ 600) (a : Nat → Nat → Int32) (b : Nat → Nat → Int64)  (hI : IM K a) (V : Nat → Int) (hV : LRL V a) (hG : GV V) : f_call mtM 40 70 [.inr (.inr (some 0))] (mH a b) (QM K a b (fun x a' => (a' 0 2 = a 0 2 ∧ a' 1 = a 1) ∧ (KPM (a 16) (a' 16) ∧ LMK a a') ∧ ENDR V x)) := by
  have hR := RM.mono hI.1
  have w := s_ends (K := K + 1) a b   hR hI.2.1.1
  have w := f_call.mono (k3_call (by decide) w) (fun r h9 q => And.comm.mp q)
  have w2 := k_call (by decide) w
  have w5 := k5_call (by decide) (f_5c f_n50  f_5n) w2
  have y := f_call.pcd (f_call.up (d1 := 40) (by omega) w5) (fun d hd => y_ends (d := d) a b V  hV hG)
  refine f_call.mono y (fun r9 h9 q => ?_)
  obtain ⟨q, y⟩ := q
  have y : ∃ x : Int32, r9 = some (.inl x) ∧ ENDR V x := by obtain ⟨a2, e2, y1, x2, y2, y3⟩ := y; exact ⟨x2, y2, y3⟩
  obtain ⟨x9, ex9, hy9⟩ := y
  subst ex9
  obtain ⟨q, z5⟩ := q
  obtain ⟨⟨z3, a1, rfl, h1, f, x, ex, p⟩, z⟩ := q
  cases ex
  exact ⟨a1, b, _, rfl, rfl, ⟨h1, LVA.pw hI.2.1 h1 (fun m9 l9 h7 => f.2.1 m9 (by omega) h7) (Int.le_of_eq (congrArg Int32.toInt z3)) (fun m9 _ h9 => Or.inl (by rw [f.1 16 (by decide)] at h9; exact h9)), hI.2.2.1.fr f.1 (by decide) (by decide) (by decide), hI.2.2.2.same hR (fun j _ => by rw [f.1 11 (by decide)])⟩, z5, ⟨z, f.1 1 (by decide)⟩, ⟨(fun m9 _ => congrFun (f.1 16 (by decide)) m9), (fun j9 _ => congrFun (f.1 6 (by decide)) j9)⟩, hy9⟩
theorem pm_wed {K : Nat} (hK : K ≤ 600) (a : Nat → Nat → Int32) (b : Nat → Nat → Int64) (w : Int32) (h : Int32) (hI : IM K a) : f_call mtM 40 73 [.inr (.inr (some 0)), .inl w, .inl h] (mH a b) (QM K a b (fun x a' => (a' 0 2 = a 0 2 ∧ a' 1 = a 1) ∧ (KPM (a 16) (a' 16) ∧ LMK a a') ∧ True)) := by
  have hR := RM.mono hI.1
  have w := s_wed (K := K + 1) a b  w h hR hI.2.1.1 hI.2.2.1 hI.2.1.u16
  have w2 := k_call (by decide) w
  have w5 := k5_call (by decide) (f_5c f_n50 (f_5c f_n5i (f_5c f_n5i f_5n))) w2
  refine f_call.mono (f_call.up (by omega) w5) (fun r h9 q => ?_)
  obtain ⟨q, z5⟩ := q
  obtain ⟨⟨a1, rfl, h1, f, x, rfl, p⟩, z⟩ := q
  exact ⟨a1, b, _, rfl, rfl, ⟨h1, LVA.ux hI.2.1 h1 f.2.1 f.2.2 (f.1 16 (by decide)), hI.2.2.1.fr f.1 (by decide) (by decide) (by decide), hI.2.2.2.same hR (fun j _ => by rw [f.1 11 (by decide)])⟩, z5, ⟨z, f.1 1 (by decide)⟩, ⟨(fun m9 _ => congrFun (f.1 16 (by decide)) m9), (fun j9 _ => congrFun (f.1 6 (by decide)) j9)⟩, trivial⟩
theorem pm_part {K : Nat} (hK : K ≤ 600) (a : Nat → Nat → Int32) (b : Nat → Nat → Int64) (w : Int32) (hI : IM K a) : f_call mtM 40 74 [.inr (.inr (some 0)), .inl w] (mH a b) (QM K a b (fun x a' => (a' 0 2 = a 0 2 ∧ a' 1 = a 1) ∧ (KPM (a 16) (a' 16) ∧ LMK a a') ∧ True)) := by
  have hR := RM.mono hI.1
  have w := s_part (K := K + 1) a b  w hR hI.2.1.1 hI.2.1.u16
  have w2 := k_call (by decide) w
  have w5 := k5_call (by decide) (f_5c f_n50 (f_5c f_n5i f_5n)) w2
  refine f_call.mono (f_call.up (by omega) w5) (fun r h9 q => ?_)
  obtain ⟨q, z5⟩ := q
  obtain ⟨⟨a1, rfl, h1, f, x, rfl, p⟩, z⟩ := q
  exact ⟨a1, b, _, rfl, rfl, ⟨h1, LVA.ux hI.2.1 h1 f.2.1 f.2.2 (f.1 16 (by decide)), hI.2.2.1.fr f.1 (by decide) (by decide) (by decide), hI.2.2.2.same hR (fun j _ => by rw [f.1 11 (by decide)])⟩, z5, ⟨z, f.1 1 (by decide)⟩, ⟨(fun m9 _ => congrFun (f.1 16 (by decide)) m9), (fun j9 _ => congrFun (f.1 6 (by decide)) j9)⟩, trivial⟩
theorem pm_seasons {K : Nat} (hK : K ≤ 600) (a : Nat → Nat → Int32) (b : Nat → Nat → Int64) (n : Int32) (hI : IM K a) : f_call mtM 40 76 [.inr (.inr (some 0)), .inl n] (mH a b) (QM K a b (fun x a' => (a' 0 2 = a 0 2 ∧ a' 1 = a 1) ∧ (KPM (a 16) (a' 16) ∧ LMK a a') ∧ True)) := by
  have hR := RM.mono hI.1
  have w := s_seasons (K := K + 1) a b  n hR hI.2.1.1 hI.2.2.1 hI.2.1.u16 (by have k9 := RM.now hI.1 (j := 0) (by decide); omega)
  have w2 := k_call (by decide) w
  have w5 := k5_call (by decide) (f_5c f_n50 (f_5c f_n5i f_5n)) w2
  refine f_call.mono (f_call.up (by omega) w5) (fun r h9 q => ?_)
  obtain ⟨q, z5⟩ := q
  obtain ⟨⟨a1, rfl, h1, f, x, rfl, p⟩, z⟩ := q
  exact ⟨a1, b, _, rfl, rfl, ⟨h1, LVA.ux hI.2.1 h1 f.2.1 f.2.2 (f.1 16 (by decide)), hI.2.2.1.fr f.1 (by decide) (by decide) (by decide), hI.2.2.2.same hR (fun j _ => by rw [f.1 11 (by decide)])⟩, z5, ⟨z, f.1 1 (by decide)⟩, ⟨(fun m9 _ => congrFun (f.1 16 (by decide)) m9), (fun j9 _ => congrFun (f.1 6 (by decide)) j9)⟩, trivial⟩
theorem pm_undo {K : Nat} (hK : K ≤ 600) (a : Nat → Nat → Int32) (b : Nat → Nat → Int64)  (hI : IM K a) : f_call mtM 40 77 [.inr (.inr (some 0))] (mH a b) (QM K a b (fun x a' => (a' 0 2 = a 0 2 ∧ a' 1 = a 1) ∧ (KPM (a 16) (a' 16) ∧ LMK a a') ∧ True)) := by
  have hR := RM.mono hI.1
  have w := s_undo (K := K + 1) a b   hR hI.2.1.2.1
  have w2 := k_call (by decide) w
  have w5 := k5_call (by decide) (f_5c f_n50  f_5n) w2
  refine f_call.mono (f_call.up (by omega) w5) (fun r h9 q => ?_)
  obtain ⟨q, z5⟩ := q
  obtain ⟨⟨a1, rfl, h1, f, x, rfl, p⟩, z⟩ := q
  exact ⟨a1, b, _, rfl, rfl, ⟨h1, LVA.pw hI.2.1 h1 (fun m9 l9 h7 => f.2.1 m9 (by omega) h7) f.2.2 (fun m9 _ h9 => Or.inl (by rw [f.1 16 (by decide)] at h9; exact h9)), hI.2.2.1.fr f.1 (by decide) (by decide) (by decide), hI.2.2.2.same hR (fun j _ => by rw [f.1 11 (by decide)])⟩, z5, ⟨z, f.1 1 (by decide)⟩, ⟨(fun m9 _ => congrFun (f.1 16 (by decide)) m9), (fun j9 _ => congrFun (f.1 6 (by decide)) j9)⟩, trivial⟩
theorem pm_judged {K : Nat} (hK : K ≤ 600) (a : Nat → Nat → Int32) (b : Nat → Nat → Int64) (w : Int32) (hI : IM K a) : f_call mtM 40 79 [.inr (.inr (some 0)), .inl w] (mH a b) (QM K a b (fun x a' => (a' 0 2 = a 0 2 ∧ a' 1 = a 1) ∧ (KPM (a 16) (a' 16) ∧ LMK a a') ∧ True)) := by
  have hR := RM.mono hI.1
  have w := s_judged (K := K + 1) a b  w hR hI.2.1.1 hI.2.2.1 hI.2.2.2 (by omega)
  have w := f_call.mono (k3_call (by decide) w) (fun r h9 q => And.comm.mp q)
  have w2 := k_call (by decide) w
  have w5 := k5_call (by decide) (f_5c f_n50 (f_5c f_n5i f_5n)) w2
  refine f_call.mono (f_call.up (by omega) w5) (fun r h9 q => ?_)
  obtain ⟨q, z5⟩ := q
  obtain ⟨⟨z3, a1, rfl, h1, f, x, rfl, p⟩, z⟩ := q
  exact ⟨a1, b, _, rfl, rfl, ⟨h1, LVA.pw hI.2.1 h1 (fun m9 l9 h7 => f.2.1 m9 (by omega) h7) (Int.le_of_eq (congrArg Int32.toInt z3)) (fun m9 _ h9 => Or.inl (by rw [f.1 16 (by decide)] at h9; exact h9)), hI.2.2.1.fr f.1 (by decide) (by decide) (by decide), hI.2.2.2.same hR (fun j _ => by rw [f.1 11 (by decide)])⟩, z5, ⟨z, f.1 1 (by decide)⟩, ⟨(fun m9 _ => congrFun (f.1 16 (by decide)) m9), (fun j9 _ => congrFun (f.1 6 (by decide)) j9)⟩, trivial⟩
theorem pm_worn {K : Nat} (hK : K ≤ 600) (a : Nat → Nat → Int32) (b : Nat → Nat → Int64) (r : Int32) (s : Int32) (hI : IM K a) : f_call mtM 40 81 [.inr (.inr (some 0)), .inl r, .inl s] (mH a b) (QM K a b (fun x a' => (a' 0 2 = a 0 2 ∧ a' 1 = a 1) ∧ (KPM (a 16) (a' 16) ∧ LMK a a') ∧ True)) := by
  have hR := RM.mono hI.1
  have w := s_worn (K := K + 1) a b  r s hR 
  have w := f_call.mono (k3_call (by decide) w) (fun r h9 q => And.comm.mp q)
  have w2 := k_call (by decide) w
  have w5 := k5_call (by decide) (f_5c f_n50 (f_5c f_n5i (f_5c f_n5i f_5n))) w2
  refine f_call.mono (f_call.up (by omega) w5) (fun r h9 q => ?_)
  obtain ⟨q, z5⟩ := q
  obtain ⟨⟨z3, a1, rfl, h1, f, x, rfl, p⟩, z⟩ := q
  exact ⟨a1, b, _, rfl, rfl, ⟨h1, LVA.fr hI.2.1 f.1 (by decide) (by decide) z3, hI.2.2.1.fr f.1 (by decide) (by decide) (by decide), hI.2.2.2.same hR (fun j _ => by rw [f.1 11 (by decide)])⟩, z5, ⟨z, f.1 1 (by decide)⟩, ⟨(fun m9 _ => congrFun (f.1 16 (by decide)) m9), (fun j9 _ => congrFun (f.1 6 (by decide)) j9)⟩, trivial⟩
theorem pm_love {K : Nat} (hK : K ≤ 600) (a : Nat → Nat → Int32) (b : Nat → Nat → Int64) (r : Int32) (hI : IM K a) : f_call mtM 40 82 [.inr (.inr (some 0)), .inl r] (mH a b) (QM K a b (fun x a' => (a' 0 2 = a 0 2 ∧ a' 1 = a 1) ∧ (KPM (a 16) (a' 16) ∧ LMK a a') ∧ True)) := by
  have hR := RM.mono hI.1
  have w := s_love (K := K + 1) a b  r hR 
  have w := f_call.mono (k3_call (by decide) w) (fun r h9 q => And.comm.mp q)
  have w2 := k_call (by decide) w
  have w5 := k5_call (by decide) (f_5c f_n50 (f_5c f_n5i f_5n)) w2
  refine f_call.mono (f_call.up (by omega) w5) (fun r h9 q => ?_)
  obtain ⟨q, z5⟩ := q
  obtain ⟨⟨z3, a1, rfl, h1, f, x, rfl, p⟩, z⟩ := q
  exact ⟨a1, b, _, rfl, rfl, ⟨h1, LVA.fr hI.2.1 f.1 (by decide) (by decide) z3, hI.2.2.1.fr f.1 (by decide) (by decide) (by decide), hI.2.2.2.same hR (fun j _ => by rw [f.1 11 (by decide)])⟩, z5, ⟨z, f.1 1 (by decide)⟩, ⟨(fun m9 _ => congrFun (f.1 16 (by decide)) m9), (fun j9 _ => congrFun (f.1 6 (by decide)) j9)⟩, trivial⟩
theorem pm_hyphen {K : Nat} (hK : K ≤ 600) (a : Nat → Nat → Int32) (b : Nat → Nat → Int64) (r : Int32) (hI : IM K a) : f_call mtM 40 83 [.inr (.inr (some 0)), .inl r] (mH a b) (QM K a b (fun x a' => (a' 0 2 = a 0 2 ∧ a' 1 = a 1) ∧ (KPM (a 16) (a' 16) ∧ LMK a a') ∧ True)) := by
  have hR := RM.mono hI.1
  have w := s_hyphen (K := K + 1) a b  r hR hI.2.1.1
  have w := f_call.mono (k3_call (by decide) w) (fun r h9 q => And.comm.mp q)
  have w2 := k_call (by decide) w
  have w5 := k5_call (by decide) (f_5c f_n50 (f_5c f_n5i f_5n)) w2
  refine f_call.mono (f_call.up (by omega) w5) (fun r h9 q => ?_)
  obtain ⟨q, z5⟩ := q
  obtain ⟨⟨z3, a1, rfl, h1, f, x, rfl, p⟩, z⟩ := q
  exact ⟨a1, b, _, rfl, rfl, ⟨h1, LVA.fr hI.2.1 f.1 (by decide) (by decide) z3, hI.2.2.1.fr f.1 (by decide) (by decide) (by decide), hI.2.2.2.same hR (fun j _ => by rw [f.1 11 (by decide)])⟩, z5, ⟨z, f.1 1 (by decide)⟩, ⟨(fun m9 _ => congrFun (f.1 16 (by decide)) m9), (fun j9 _ => congrFun (f.1 6 (by decide)) j9)⟩, trivial⟩
theorem pm_match {K : Nat} (hK : K ≤ 600) (a : Nat → Nat → Int32) (b : Nat → Nat → Int64) (w : Int32) (hI : IM K a) : f_call mtM 40 90 [.inr (.inr (some 0)), .inl w] (mH a b) (QM K a b (fun x a' => (a' 0 2 = a 0 2 ∧ a' 1 = a 1) ∧ (KPM (a 16) (a' 16) ∧ LMK a a') ∧ True)) := by
  have hR := RM.mono hI.1
  have w := s_match (K := K + 1) a b  w hR 
  have w := f_call.mono (k3_call (by decide) w) (fun r h9 q => And.comm.mp q)
  have w2 := k_call (by decide) w
  have w5 := k5_call (by decide) (f_5c f_n50 (f_5c f_n5i f_5n)) w2
  refine f_call.mono (f_call.up (by omega) w5) (fun r h9 q => ?_)
  obtain ⟨q, z5⟩ := q
  obtain ⟨⟨z3, a1, rfl, h1, f, x, rfl, p⟩, z⟩ := q
  exact ⟨a1, b, _, rfl, rfl, ⟨h1, LVA.pw hI.2.1 h1 (fun m9 l9 h7 => f.2.1 m9 (by omega) h7) (Int.le_of_eq (congrArg Int32.toInt z3)) (fun m9 _ h9 => Or.inl (by rw [f.1 16 (by decide)] at h9; exact h9)), hI.2.2.1.fr f.1 (by decide) (by decide) (by decide), hI.2.2.2.same hR (fun j _ => by rw [f.1 11 (by decide)])⟩, z5, ⟨z, f.1 1 (by decide)⟩, ⟨(fun m9 _ => congrFun (f.1 16 (by decide)) m9), (fun j9 _ => congrFun (f.1 6 (by decide)) j9)⟩, trivial⟩
theorem pm_chain {K : Nat} (hK : K ≤ 600) (a : Nat → Nat → Int32) (b : Nat → Nat → Int64) (r : Int32) (s : Int32) (w : Int32) (hI : IM K a) : f_call mtM 40 92 [.inr (.inr (some 0)), .inl r, .inl s, .inl w] (mH a b) (QM K a b (fun x a' => (a' 0 2 = a 0 2 ∧ a' 1 = a 1) ∧ (KPM (a 16) (a' 16) ∧ LMK a a') ∧ True)) := by
  have hR := RM.mono hI.1
  have w := s_chain (K := K + 1) a b  r s w hR 
  have w := f_call.mono (k3_call (by decide) w) (fun r h9 q => And.comm.mp q)
  have w2 := k_call (by decide) w
  have w5 := k5_call (by decide) (f_5c f_n50 (f_5c f_n5i (f_5c f_n5i (f_5c f_n5i f_5n)))) w2
  refine f_call.mono (f_call.up (by omega) w5) (fun r h9 q => ?_)
  obtain ⟨q, z5⟩ := q
  obtain ⟨⟨z3, a1, rfl, h1, f, x, rfl, p⟩, z⟩ := q
  exact ⟨a1, b, _, rfl, rfl, ⟨h1, LVA.pw hI.2.1 h1 (fun m9 l9 h7 => f.2.1 m9 (by omega) h7) (Int.le_of_eq (congrArg Int32.toInt z3)) (fun m9 _ h9 => Or.inl (by rw [f.1 16 (by decide)] at h9; exact h9)), hI.2.2.1.fr f.1 (by decide) (by decide) (by decide), hI.2.2.2.same hR (fun j _ => by rw [f.1 11 (by decide)])⟩, z5, ⟨z, f.1 1 (by decide)⟩, ⟨(fun m9 _ => congrFun (f.1 16 (by decide)) m9), (fun j9 _ => congrFun (f.1 6 (by decide)) j9)⟩, trivial⟩
theorem pm_peace {K : Nat} (hK : K ≤ 600) (a : Nat → Nat → Int32) (b : Nat → Nat → Int64)  (hI : IM K a) : f_call mtM 40 93 [.inr (.inr (some 0))] (mH a b) (QM K a b (fun x a' => (a' 0 2 = a 0 2 ∧ a' 1 = a 1) ∧ (KPM (a 16) (a' 16) ∧ LMK a a') ∧ True)) := by
  have hR := RM.mono hI.1
  have w := s_peace (K := K + 1) a b   hR hI.2.1.1
  have w := f_call.mono (k3_call (by decide) w) (fun r h9 q => And.comm.mp q)
  have w2 := k_call (by decide) w
  have w5 := k5_call (by decide) (f_5c f_n50  f_5n) w2
  refine f_call.mono (f_call.up (by omega) w5) (fun r h9 q => ?_)
  obtain ⟨q, z5⟩ := q
  obtain ⟨⟨z3, a1, rfl, h1, f, x, rfl, p⟩, z⟩ := q
  exact ⟨a1, b, _, rfl, rfl, ⟨h1, LVA.pw hI.2.1 h1 (fun m9 l9 h7 => f.2.1 m9 (by omega) h7) (Int.le_of_eq (congrArg Int32.toInt z3)) (fun m9 _ h9 => Or.inl (by rw [f.1 16 (by decide)] at h9; exact h9)), hI.2.2.1.fr f.1 (by decide) (by decide) (by decide), hI.2.2.2.same hR (fun j _ => by rw [f.1 11 (by decide)])⟩, z5, ⟨z, f.1 1 (by decide)⟩, ⟨(fun m9 _ => congrFun (f.1 16 (by decide)) m9), (fun j9 _ => congrFun (f.1 6 (by decide)) j9)⟩, trivial⟩
theorem pm_cathedral {K : Nat} (hK : K ≤ 600) (a : Nat → Nat → Int32) (b : Nat → Nat → Int64) (s : Int32) (hI : IM K a) : f_call mtM 40 94 [.inr (.inr (some 0)), .inl s] (mH a b) (QM K a b (fun x a' => (a' 0 2 = a 0 2 ∧ a' 1 = a 1) ∧ (KPM (a 16) (a' 16) ∧ LMK a a') ∧ True)) := by
  have hR := RM.mono hI.1
  have w := s_cathedral (K := K + 1) a b  s hR hI.2.1.1
  have w := f_call.mono (k3_call (by decide) w) (fun r h9 q => And.comm.mp q)
  have w2 := k_call (by decide) w
  have w5 := k5_call (by decide) (f_5c f_n50 (f_5c f_n5i f_5n)) w2
  refine f_call.mono (f_call.up (by omega) w5) (fun r h9 q => ?_)
  obtain ⟨q, z5⟩ := q
  obtain ⟨⟨z3, a1, rfl, h1, f, x, rfl, p⟩, z⟩ := q
  exact ⟨a1, b, _, rfl, rfl, ⟨h1, LVA.fr hI.2.1 f.1 (by decide) (by decide) z3, hI.2.2.1.fr f.1 (by decide) (by decide) (by decide), hI.2.2.2.same hR (fun j _ => by rw [f.1 11 (by decide)])⟩, z5, ⟨z, f.1 1 (by decide)⟩, ⟨(fun m9 _ => congrFun (f.1 16 (by decide)) m9), (fun j9 _ => congrFun (f.1 6 (by decide)) j9)⟩, trivial⟩
theorem pm_eddies {K : Nat} (hK : K ≤ 600) (a : Nat → Nat → Int32) (b : Nat → Nat → Int64)  (hI : IM K a) : f_call mtM 40 95 [.inr (.inr (some 0))] (mH a b) (QM K a b (fun x a' => (a' 0 2 = a 0 2 ∧ a' 1 = a 1) ∧ (KPM (a 16) (a' 16) ∧ LMK a a') ∧ True)) := by
  have hR := RM.mono hI.1
  have w := s_eddies (K := K + 1) a b   hR 
  have w := f_call.mono (k3_call (by decide) w) (fun r h9 q => And.comm.mp q)
  have w2 := k_call (by decide) w
  have w5 := k5_call (by decide) (f_5c f_n50  f_5n) w2
  refine f_call.mono (f_call.up (by omega) w5) (fun r h9 q => ?_)
  obtain ⟨q, z5⟩ := q
  obtain ⟨⟨z3, a1, rfl, h1, f, x, rfl, p⟩, z⟩ := q
  exact ⟨a1, b, _, rfl, rfl, ⟨h1, LVA.fr hI.2.1 f.1 (by decide) (by decide) z3, hI.2.2.1.fr f.1 (by decide) (by decide) (by decide), hI.2.2.2.same hR (fun j _ => by rw [f.1 11 (by decide)])⟩, z5, ⟨z, f.1 1 (by decide)⟩, ⟨(fun m9 _ => congrFun (f.1 16 (by decide)) m9), (fun j9 _ => congrFun (f.1 6 (by decide)) j9)⟩, trivial⟩
theorem pm_share {K : Nat} (hK : K ≤ 600) (a : Nat → Nat → Int32) (b : Nat → Nat → Int64) (r : Int32) (s : Int32) (h : Int32) (hI : IM K a) : f_call mtM 40 97 [.inr (.inr (some 0)), .inl r, .inl s, .inl h] (mH a b) (QM K a b (fun x a' => (a' 0 2 = a 0 2 ∧ a' 1 = a 1) ∧ (KPM (a 16) (a' 16) ∧ LMK a a') ∧ True)) := by
  have hR := RM.mono hI.1
  have w := s_share (K := K + 1) a b  r s h hR hI.2.1.1
  have w := f_call.mono (k3_call (by decide) w) (fun r h9 q => And.comm.mp q)
  have w2 := k_call (by decide) w
  have w5 := k5_call (by decide) (f_5c f_n50 (f_5c f_n5i (f_5c f_n5i (f_5c f_n5i f_5n)))) w2
  refine f_call.mono (f_call.up (by omega) w5) (fun r h9 q => ?_)
  obtain ⟨q, z5⟩ := q
  obtain ⟨⟨z3, a1, rfl, h1, f, x, rfl, p⟩, z⟩ := q
  exact ⟨a1, b, _, rfl, rfl, ⟨h1, LVA.fr hI.2.1 f.1 (by decide) (by decide) z3, hI.2.2.1.fr f.1 (by decide) (by decide) (by decide), hI.2.2.2.same hR (fun j _ => by rw [f.1 11 (by decide)])⟩, z5, ⟨z, f.1 1 (by decide)⟩, ⟨(fun m9 _ => congrFun (f.1 16 (by decide)) m9), (fun j9 _ => congrFun (f.1 6 (by decide)) j9)⟩, trivial⟩
theorem pm_storms {K : Nat} (hK : K ≤ 600) (a : Nat → Nat → Int32) (b : Nat → Nat → Int64) (r : Int32) (s : Int32) (hI : IM K a) : f_call mtM 40 100 [.inr (.inr (some 0)), .inl r, .inl s] (mH a b) (QM K a b (fun x a' => (a' 0 2 = a 0 2 ∧ a' 1 = a 1) ∧ (KPM (a 16) (a' 16) ∧ LMK a a') ∧ True)) := by
  have hR := RM.mono hI.1
  have w := s_storms (K := K + 1) a b  r s hR hI.2.1.1
  have w := f_call.mono (k3_call (by decide) w) (fun r h9 q => And.comm.mp q)
  have w2 := k_call (by decide) w
  have w5 := k5_call (by decide) (f_5c f_n50 (f_5c f_n5i (f_5c f_n5i f_5n))) w2
  refine f_call.mono (f_call.up (by omega) w5) (fun r h9 q => ?_)
  obtain ⟨q, z5⟩ := q
  obtain ⟨⟨z3, a1, rfl, h1, f, x, rfl, p⟩, z⟩ := q
  exact ⟨a1, b, _, rfl, rfl, ⟨h1, LVA.fr hI.2.1 f.1 (by decide) (by decide) z3, hI.2.2.1.fr f.1 (by decide) (by decide) (by decide), hI.2.2.2.same hR (fun j _ => by rw [f.1 11 (by decide)])⟩, z5, ⟨z, f.1 1 (by decide)⟩, ⟨(fun m9 _ => congrFun (f.1 16 (by decide)) m9), (fun j9 _ => congrFun (f.1 6 (by decide)) j9)⟩, trivial⟩
theorem pm_walls {K : Nat} (hK : K ≤ 600) (a : Nat → Nat → Int32) (b : Nat → Nat → Int64) (r : Int32) (s : Int32) (c : Int32) (hI : IM K a) : f_call mtM 40 101 [.inr (.inr (some 0)), .inl r, .inl s, .inl c] (mH a b) (QM K a b (fun x a' => (a' 0 2 = a 0 2 ∧ a' 1 = a 1) ∧ (KPM (a 16) (a' 16) ∧ LMK a a') ∧ True)) := by
  have hR := RM.mono hI.1
  have w := s_walls (K := K + 1) a b  r s c hR hI.2.1.1
  have w := f_call.mono (k3_call (by decide) w) (fun r h9 q => And.comm.mp q)
  have w2 := k_call (by decide) w
  have w5 := k5_call (by decide) (f_5c f_n50 (f_5c f_n5i (f_5c f_n5i (f_5c f_n5i f_5n)))) w2
  refine f_call.mono (f_call.up (by omega) w5) (fun r h9 q => ?_)
  obtain ⟨q, z5⟩ := q
  obtain ⟨⟨z3, a1, rfl, h1, f, x, rfl, p⟩, z⟩ := q
  exact ⟨a1, b, _, rfl, rfl, ⟨h1, LVA.fr hI.2.1 f.1 (by decide) (by decide) z3, hI.2.2.1.fr f.1 (by decide) (by decide) (by decide), hI.2.2.2.same hR (fun j _ => by rw [f.1 11 (by decide)])⟩, z5, ⟨z, f.1 1 (by decide)⟩, ⟨(fun m9 _ => congrFun (f.1 16 (by decide)) m9), (fun j9 _ => congrFun (f.1 6 (by decide)) j9)⟩, trivial⟩
theorem pm_worst {K : Nat} (hK : K ≤ 600) (a : Nat → Nat → Int32) (b : Nat → Nat → Int64) (r : Int32) (w : Int32) (hI : IM K a) : f_call mtM 40 102 [.inr (.inr (some 0)), .inl r, .inl w] (mH a b) (QM K a b (fun x a' => (a' 0 2 = a 0 2 ∧ a' 1 = a 1) ∧ (KPM (a 16) (a' 16) ∧ LMK a a') ∧ True)) := by
  have hR := RM.mono hI.1
  have w := s_worst (K := K + 1) a b  r w hR hI.2.1.1
  have w := f_call.mono (k3_call (by decide) w) (fun r h9 q => And.comm.mp q)
  have w2 := k_call (by decide) w
  have w5 := k5_call (by decide) (f_5c f_n50 (f_5c f_n5i (f_5c f_n5i f_5n))) w2
  refine f_call.mono (f_call.up (by omega) w5) (fun r h9 q => ?_)
  obtain ⟨q, z5⟩ := q
  obtain ⟨⟨z3, a1, rfl, h1, f, x, rfl, p⟩, z⟩ := q
  exact ⟨a1, b, _, rfl, rfl, ⟨h1, LVA.fr hI.2.1 f.1 (by decide) (by decide) z3, hI.2.2.1.fr f.1 (by decide) (by decide) (by decide), hI.2.2.2.same hR (fun j _ => by rw [f.1 11 (by decide)])⟩, z5, ⟨z, f.1 1 (by decide)⟩, ⟨(fun m9 _ => congrFun (f.1 16 (by decide)) m9), (fun j9 _ => congrFun (f.1 6 (by decide)) j9)⟩, trivial⟩
theorem pm_tell {K : Nat} (hK : K ≤ 600) (a : Nat → Nat → Int32) (b : Nat → Nat → Int64) (r : Int32) (s : Int32) (fl : Int32) (hI : IM K a) : f_call mtM 40 103 [.inr (.inr (some 0)), .inl r, .inl s, .inl fl] (mH a b) (QM K a b (fun x a' => (a' 0 2 = a 0 2 ∧ a' 1 = a 1) ∧ (KPM (a 16) (a' 16) ∧ LMK a a') ∧ True)) := by
  have hR := RM.mono hI.1
  have w := s_tell (K := K + 1) a b  r s fl hR 
  have w := f_call.mono (k3_call (by decide) w) (fun r h9 q => And.comm.mp q)
  have w2 := k_call (by decide) w
  have w5 := k5_call (by decide) (f_5c f_n50 (f_5c f_n5i (f_5c f_n5i (f_5c f_n5i f_5n)))) w2
  refine f_call.mono (f_call.up (by omega) w5) (fun r h9 q => ?_)
  obtain ⟨q, z5⟩ := q
  obtain ⟨⟨z3, a1, rfl, h1, f, x, rfl, p⟩, z⟩ := q
  exact ⟨a1, b, _, rfl, rfl, ⟨h1, LVA.pw hI.2.1 h1 (fun m9 l9 h7 => f.2.1 m9 (by omega) h7) (Int.le_of_eq (congrArg Int32.toInt z3)) (fun m9 _ h9 => Or.inl (by rw [f.1 16 (by decide)] at h9; exact h9)), hI.2.2.1.fr f.1 (by decide) (by decide) (by decide), hI.2.2.2.same hR (fun j _ => by rw [f.1 11 (by decide)])⟩, z5, ⟨z, f.1 1 (by decide)⟩, ⟨(fun m9 _ => congrFun (f.1 16 (by decide)) m9), (fun j9 _ => congrFun (f.1 6 (by decide)) j9)⟩, trivial⟩
theorem pm_found {K : Nat} (hK : K ≤ 600) (a : Nat → Nat → Int32) (b : Nat → Nat → Int64) (w : Int32) (hI : IM K a) : f_call mtM 40 105 [.inr (.inr (some 0)), .inl w] (mH a b) (QM K a b (fun x a' => (a' 0 2 = a 0 2 ∧ a' 1 = a 1) ∧ (KPM (a 16) (a' 16) ∧ LMK a a') ∧ True)) := by
  have hR := RM.mono hI.1
  have w := s_found (K := K + 1) a b  w hR 
  have w := f_call.mono (k3_call (by decide) w) (fun r h9 q => And.comm.mp q)
  have w2 := k_call (by decide) w
  have w5 := k5_call (by decide) (f_5c f_n50 (f_5c f_n5i f_5n)) w2
  refine f_call.mono (f_call.up (by omega) w5) (fun r h9 q => ?_)
  obtain ⟨q, z5⟩ := q
  obtain ⟨⟨z3, a1, rfl, h1, f, x, rfl, p⟩, z⟩ := q
  exact ⟨a1, b, _, rfl, rfl, ⟨h1, LVA.pw hI.2.1 h1 (fun m9 l9 h7 => f.2.1 m9 (by omega) h7) (Int.le_of_eq (congrArg Int32.toInt z3)) (fun m9 _ h9 => Or.inl (by rw [f.1 16 (by decide)] at h9; exact h9)), hI.2.2.1.fr f.1 (by decide) (by decide) (by decide), hI.2.2.2.same hR (fun j _ => by rw [f.1 11 (by decide)])⟩, z5, ⟨z, f.1 1 (by decide)⟩, ⟨(fun m9 _ => congrFun (f.1 16 (by decide)) m9), (fun j9 _ => congrFun (f.1 6 (by decide)) j9)⟩, trivial⟩
theorem pm_rests {K : Nat} (hK : K ≤ 600) (a : Nat → Nat → Int32) (b : Nat → Nat → Int64) (w : Int32) (o : Int32) (p : Int32) (t : Int32) (hI : IM K a) : f_call mtM 40 107 [.inr (.inr (some 0)), .inl w, .inl o, .inl p, .inl t] (mH a b) (QM K a b (fun x a' => (a' 0 2 = a 0 2 ∧ a' 1 = a 1) ∧ (KPM (a 16) (a' 16) ∧ LMK a a') ∧ True)) := by
  have hR := RM.mono hI.1
  have w := s_rests (K := K + 1) a b  w o p t hR hI.2.1.1
  have w := f_call.mono (k3_call (by decide) w) (fun r h9 q => And.comm.mp q)
  have w2 := k_call (by decide) w
  have w5 := k5_call (by decide) (f_5c f_n50 (f_5c f_n5i (f_5c f_n5i (f_5c f_n5i (f_5c f_n5i f_5n))))) w2
  refine f_call.mono (f_call.up (by omega) w5) (fun r h9 q => ?_)
  obtain ⟨q, z5⟩ := q
  obtain ⟨⟨z3, a1, rfl, h1, f, x, rfl, p⟩, z⟩ := q
  exact ⟨a1, b, _, rfl, rfl, ⟨h1, LVA.fr hI.2.1 f.1 (by decide) (by decide) z3, hI.2.2.1.fr f.1 (by decide) (by decide) (by decide), hI.2.2.2.same hR (fun j _ => by rw [f.1 11 (by decide)])⟩, z5, ⟨z, f.1 1 (by decide)⟩, ⟨(fun m9 _ => congrFun (f.1 16 (by decide)) m9), (fun j9 _ => congrFun (f.1 6 (by decide)) j9)⟩, trivial⟩
theorem pm_dams {K : Nat} (hK : K ≤ 600) (a : Nat → Nat → Int32) (b : Nat → Nat → Int64) (r : Int32) (s : Int32) (t : Int32) (hI : IM K a) : f_call mtM 40 109 [.inr (.inr (some 0)), .inl r, .inl s, .inl t] (mH a b) (QM K a b (fun x a' => (a' 0 2 = a 0 2 ∧ a' 1 = a 1) ∧ (KPM (a 16) (a' 16) ∧ LMK a a') ∧ True)) := by
  have hR := RM.mono hI.1
  have w := s_dams (K := K + 1) a b  r s t hR 
  have w := f_call.mono (k3_call (by decide) w) (fun r h9 q => And.comm.mp q)
  have w2 := k_call (by decide) w
  have w5 := k5_call (by decide) (f_5c f_n50 (f_5c f_n5i (f_5c f_n5i (f_5c f_n5i f_5n)))) w2
  refine f_call.mono (f_call.up (by omega) w5) (fun r h9 q => ?_)
  obtain ⟨q, z5⟩ := q
  obtain ⟨⟨z3, a1, rfl, h1, f, x, rfl, p⟩, z⟩ := q
  exact ⟨a1, b, _, rfl, rfl, ⟨h1, LVA.fr hI.2.1 f.1 (by decide) (by decide) z3, hI.2.2.1.fr f.1 (by decide) (by decide) (by decide), hI.2.2.2.same hR (fun j _ => by rw [f.1 11 (by decide)])⟩, z5, ⟨z, f.1 1 (by decide)⟩, ⟨(fun m9 _ => congrFun (f.1 16 (by decide)) m9), (fun j9 _ => congrFun (f.1 6 (by decide)) j9)⟩, trivial⟩
theorem pm_centuries {K : Nat} (hK : K ≤ 600) (a : Nat → Nat → Int32) (b : Nat → Nat → Int64) (sd : Int32) (n : Int32) (w : Int32) (hI : IM K a) : f_call mtM 40 111 [.inr (.inr (some 0)), .inl sd, .inl n, .inl w] (mH a b) (QM K a b (fun x a' => (a' 0 2 = a 0 2 ∧ a' 1 = a 1) ∧ (KPM (a 16) (a' 16) ∧ LMK a a') ∧ True)) := by
  have hR := RM.mono hI.1
  have w := s_centuries (K := K + 1) a b  sd n w hR hI.2.1.1 (by have k9 := RM.now hI.1 (j := 0) (by decide); omega)
  have w := f_call.mono (k3_call (by decide) w) (fun r h9 q => And.comm.mp q)
  have w2 := k_call (by decide) w
  have w5 := k5_call (by decide) (f_5c f_n50 (f_5c f_n5i (f_5c f_n5i (f_5c f_n5i f_5n)))) w2
  refine f_call.mono (f_call.up (by omega) w5) (fun r h9 q => ?_)
  obtain ⟨q, z5⟩ := q
  obtain ⟨⟨z3, a1, b1, rfl, h1, f, x, rfl, p⟩, z⟩ := q
  exact ⟨a1, b1, _, rfl, rfl, ⟨h1, LVA.pw hI.2.1 h1 (fun m9 l9 h7 => f.2.1 m9 (by omega) h7) (Int.le_of_eq (congrArg Int32.toInt z3)) (fun m9 _ h9 => Or.inl (by rw [f.1 16 (by decide)] at h9; exact h9)), hI.2.2.1.fr f.1 (by decide) (by decide) (by decide), hI.2.2.2.same hR (fun j _ => by rw [f.1 11 (by decide)])⟩, z5, ⟨z, f.1 1 (by decide)⟩, ⟨(fun m9 _ => congrFun (f.1 16 (by decide)) m9), (fun j9 _ => congrFun (f.1 6 (by decide)) j9)⟩, trivial⟩
theorem pm_mark {K : Nat} (hK : K ≤ 600) (a : Nat → Nat → Int32) (b : Nat → Nat → Int64) (m : Int32) (bk : Int32) (hI : IM K a) (hb : bk.toInt = 0 ∨ bk.toInt = 1) : f_call mtM 40 112 [.inr (.inr (some 0)), .inl m, .inl bk] (mH a b) (QM K a b (fun x a' => (a' 0 2 = a 0 2 ∧ a' 1 = a 1) ∧ (MRK m bk x (a 16) (a' 16) ∧ LMK a a') ∧ True)) := by
  have hR := RM.mono hI.1
  have w := s_mark (K := K + 1) a b  m bk hR (by omega) hI.2.1.1 hI.2.1.2.2
  have w2 := k_call (by decide) w
  have w5 := k5_call (by decide) (f_5c f_n50 (f_5c f_n5i (f_5c f_n5i f_5n))) w2
  have y := f_call.pcd (f_call.up (d1 := 40) (by omega) w5) (fun d hd => y_mark (d := d) a b m bk)
  refine f_call.mono y (fun r9 h9 q => ?_)
  obtain ⟨q, y⟩ := q
  have y : ∃ x : Int32, r9 = some (.inl x) ∧ MRK m bk x (a 16) (h9.1 16) := by obtain ⟨a2, e2, y1, x2, y2, y3⟩ := y; subst e2; exact ⟨x2, y2, y3⟩
  obtain ⟨x9, ex9, hy9⟩ := y
  subst ex9
  obtain ⟨q, z5⟩ := q
  obtain ⟨⟨a1, rfl, h1, f, x, ex, p⟩, z⟩ := q
  cases ex
  exact ⟨a1, b, _, rfl, rfl, ⟨h1, LVA.pw hI.2.1 h1 (fun m9 l9 h7 => f.2.1 m9 (by omega) h7) f.2.2.2 f.2.2.1, hI.2.2.1.fr f.1 (by decide) (by decide) (by decide), hI.2.2.2.same hR (fun j _ => by rw [f.1 11 (by decide)])⟩, z5, ⟨z, f.1 1 (by decide)⟩, ⟨hy9, (fun j9 _ => congrFun (f.1 6 (by decide)) j9)⟩, trivial⟩
theorem pm_count {K : Nat} (hK : K ≤ 600) (a : Nat → Nat → Int32) (b : Nat → Nat → Int64) (w : Int32) (hI : IM K a) : f_call mtM 40 113 [.inr (.inr (some 0)), .inl w] (mH a b) (QM K a b (fun x a' => (a' 0 2 = a 0 2 ∧ a' 1 = a 1) ∧ (KPM (a 16) (a' 16) ∧ LMK a a') ∧ True)) := by
  have hR := RM.mono hI.1
  have w := s_count (K := K + 1) a b  w hR 
  have w := f_call.mono (k3_call (by decide) w) (fun r h9 q => And.comm.mp q)
  have w2 := k_call (by decide) w
  have w5 := k5_call (by decide) (f_5c f_n50 (f_5c f_n5i f_5n)) w2
  refine f_call.mono (f_call.up (by omega) w5) (fun r h9 q => ?_)
  obtain ⟨q, z5⟩ := q
  obtain ⟨⟨z3, a1, rfl, h1, f, x, rfl, p⟩, z⟩ := q
  exact ⟨a1, b, _, rfl, rfl, ⟨h1, LVA.fr hI.2.1 f.1 (by decide) (by decide) z3, hI.2.2.1.fr f.1 (by decide) (by decide) (by decide), hI.2.2.2.same hR (fun j _ => by rw [f.1 11 (by decide)])⟩, z5, ⟨z, f.1 1 (by decide)⟩, ⟨(fun m9 _ => congrFun (f.1 16 (by decide)) m9), (fun j9 _ => congrFun (f.1 6 (by decide)) j9)⟩, trivial⟩
