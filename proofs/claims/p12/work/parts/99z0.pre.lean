theorem pS1 {s : State} {H : Heap} {D : va_G} {k : Nat → ClassId} {A : Nat → Prop} {w1 w2 : va_W} {av : List Value} (hK : va_K D vwCl (pT k) s) (hN : pN s) (hP : va_P D vwCl (w1 ++ w2) H) (hD : va_D A (w1 ++ w2)) : PreS s H (va_Pc av (pPre D k w1 H.size)) av :=
  ⟨pBlind, fun U hU hW => ⟨rfl, by rw [hU], by rw [hU]; exact f_P1 hP, va_K.moved hW.alike hK, hN.warm hW, (f_D1 hD).weaken (fun _ _ _ _ => trivial)⟩⟩
theorem f_lawX {p : Program} {l : Launch} {e : Env} {R : Room} {s : State} {m : MethodId} {args : Array Value} {below : List Frame} {meth : Method} {c : Code} {H : Heap} {locs : List Loc} {cells slots : Nat} {Q : State → Prop} {D : va_G} {A : Nat → Prop} {H0 : Heap} {w1 w2 : va_W} {a : Array Value} {pc mc ms : Nat} {ls : Array Slot} {rest st0 : List Value} {S : Type} {post : S → Prop} {w3 : S → va_W} (hr : va_Run p l e R s m args below meth c H locs cells slots mc ms (F0 m pc ls st0) rest (va_Qv post (pB D w1 H.size w3) (va_A w1 H.size) a) (va_A w1 H.size)) (hP : va_P D vwCl (w1 ++ w2) H) (hD : va_D A (w1 ++ w2)) (hS : va_S A H0 H locs) (hA : ∀ q, H0.size ≤ q → A q)
    (kk : ∀ (u : S) (H1 : Heap) (locs1 : List Loc), post u → va_P D vwCl (w3 u ++ w2) H1 → va_D A (w3 u ++ w2) → va_S A H0 H1 locs1 → W p l e R s m args below meth c H1 locs1 (cells + mc) (slots + ms) Q (F0 m (pc + 3) ls rest)) : W p l e R s m args below meth c H locs cells slots Q (F0 m pc ls st0) := by
  have hF : ∀ q0, va_A w1 H.size q0 → A q0 := fun q0 h0 => by
    rcases h0 with ⟨j, e0, hj⟩ | h0
    · exact (f_D1 hD).2 j _ hj
    · exact hA q0 (Nat.le_trans hS.1 h0)
  refine va_callv hr hS (fun q _ h => hF q h) hF (fun u t H1 locs ht hvm hw hB hz1 hk1 hS => ?_)
  obtain ⟨hP1, hD1⟩ := hB
  rw [ht] at hP1
  obtain ⟨g1, g2⟩ := f_join hP hD hk1 hP1 hD1 hF
  exact kk u H1 locs hw g1 g2 hS
-- a list of cells, by their places
def f_al (D : va_G) (cl : List vw_C) (k : Nat → ClassId) (q : Nat → Nat) (h : f_H) (L : va_W) : Nat → List f_X → List Nat → Prop
  | i, x :: sh, j :: js => (∃ E : va_E, L[j]? = some (q i, E) ∧ ∀ H : Heap, va_at D cl (q i, E) H → va_at D cl (q i, f_e k q h i x) H) ∧ f_al D cl k q h L (i + 1) sh js
  | _, [], [] => True
  | _, _, _ => False
theorem f_al_at {D : va_G} {cl : List vw_C} {k : Nat → ClassId} {q : Nat → Nat} {h : f_H} {L : va_W} : ∀ (sh : List f_X) (i : Nat) (js : List Nat), f_al D cl k q h L i sh js → ∀ (n : Nat) (x : f_X), sh[n]? = some x → ∃ (j : Nat) (E : va_E), js[n]? = some j ∧ L[j]? = some (q (i + n), E) ∧ ∀ H : Heap, va_at D cl (q (i + n), E) H → va_at D cl (q (i + n), f_e k q h (i + n) x) H
  | [], _, _, _, n, x, hx => by simp at hx
  | y :: sh, i, [], ha, _, _, _ => ha.elim
  | y :: sh, i, j :: js, ha, 0, x, hx => by
    cases hx
    obtain ⟨⟨E, h1, h2⟩, -⟩ := ha
    exact ⟨j, E, rfl, h1, h2⟩
  | y :: sh, i, j :: js, ha, n + 1, x, hx => by
    obtain ⟨-, ha⟩ := ha
    obtain ⟨j9, E, h1, h2, h3⟩ := f_al_at sh (i + 1) js ha n x hx
    rw [show i + 1 + n = i + (n + 1) by omega] at h2 h3
    exact ⟨j9, E, h1, h2, h3⟩
theorem f_w_inv {sh : List f_X} {k : Nat → ClassId} {q : Nat → Nat} {h : f_H} {i : Nat} {p : Nat × va_E} (hp : (f_w sh k q h)[i]? = some p) : ∃ x, sh[i]? = some x ∧ p = (q i, f_e k q h i x) := by
  unfold f_w at hp
  rw [List.getElem?_mapIdx] at hp
  cases hx : sh[i]? with
  | none => rw [hx] at hp; cases hp
  | some x => rw [hx] at hp; cases hp; exact ⟨x, rfl, rfl⟩
theorem f_build {D : va_G} {cl : List vw_C} {k : Nat → ClassId} {q : Nat → Nat} {h : f_H} {sh : List f_X} {A : Nat → Prop} {L : va_W} {H : Heap} (hP : va_P D cl L H) (hD : va_D A L) (js : List Nat) (hn : va_nd js = true) (hlen : js.length = sh.length) (ha : f_al D cl k q h L 0 sh js) : va_P D cl (f_w sh k q h) H ∧ va_D A (f_w sh k q h) := by
  refine ⟨fun i p hp => ?_, fun i j p r hp hr he => ?_, fun i p hp => ?_⟩
  · obtain ⟨x, hx, rfl⟩ := f_w_inv hp
    obtain ⟨j, E, -, h2, h3⟩ := f_al_at sh 0 js ha i x hx
    rw [Nat.zero_add] at h2 h3
    exact h3 H (hP j _ h2)
  · obtain ⟨x, hx, rfl⟩ := f_w_inv hp
    obtain ⟨y, hy, rfl⟩ := f_w_inv hr
    obtain ⟨a, E, h1, h2, -⟩ := f_al_at sh 0 js ha i x hx
    obtain ⟨b, E', g1, g2, -⟩ := f_al_at sh 0 js ha j y hy
    rw [Nat.zero_add] at h2 g2
    have e := hD.1 a b _ _ h2 g2 he
    subst e
    exact va_nd_inj js hn i j a h1 g1
  · obtain ⟨x, hx, rfl⟩ := f_w_inv hp
    obtain ⟨j, E, -, h2, -⟩ := f_al_at sh 0 js ha i x hx
    rw [Nat.zero_add] at h2
    have h5 := hD.2 j _ h2
    exact h5
theorem al_q {D : va_G} {cl : List vw_C} {cA : ClassId} {n q : Nat} {f g : Nat → Option Nat} {H : Heap} (h : ∀ j, j < n → f j = g j) (ha : va_at D cl (q, .inl (cA, n, .inr (.inr (.inr (.inr f))))) H) : va_at D cl (q, .inl (cA, n, .inr (.inr (.inr (.inr g))))) H := by
  have e : vp_cell cA (n, .inr (.inr (.inr (.inr f)))) = vp_cell cA (n, .inr (.inr (.inr (.inr g)))) := by
    rw [vp_cell_q, vp_cell_q]
    unfold arrV
    have e1 : (Array.ofFn (n := n) fun j => va_rf (f j.val)) = Array.ofFn (n := n) fun j => va_rf (g j.val) := by
      congr 1
      funext j
      rw [h j.val j.isLt]
    rw [e1]
  exact (show H[q]? = some (vp_cell cA (n, .inr (.inr (.inr (.inr g))))) from e ▸ ha)
-- what the fresh cells hold
def cz : Nat → Int32 := fun _ => 0
def cst : Nat → Int32 := fun j => if j = 8 then -1 else 0
def cfo : Nat → Int32 := fun j => if j = 2 then 1 else 0
def cv0 : Nat → Option Nat := fun i => if i = 0 then some 22 else if i = 1 then some 46 else if i = 2 then none else if i = 3 then some 46 else if i = 4 then some 50 else some 22
theorem VC0 : VC cv0 := ⟨Or.inl ⟨rfl, rfl⟩, by decide, Or.inr rfl, Or.inr (Or.inr (Or.inl rfl)), Or.inl rfl⟩
def rc_ok (c : Nat) (f : Nat → Int32) : Prop := ∀ j, lcC c j ≤ (f j).toInt ∧ (f j).toInt ≤ hcC 0 c j
theorem rc_z {c : Nat} : rc_ok c cz := fun j => by
  have e : (cz j).toInt = 0 := rfl
  rw [e]
  unfold lcC hcC
  constructor <;> (repeat' split) <;> omega
theorem rc_s {c : Nat} (h : 70 ≤ c ∧ c % 8 = 6) : rc_ok c cst := fun j => by
  have e : (cst j).toInt = if j = 8 then -1 else 0 := by
    unfold cst
    split <;> rfl
  rw [e]
  unfold lcC hcC
  constructor <;> (repeat' split) <;> omega
theorem rc_f {c : Nat} (h : c = 26 ∨ c = 29 ∨ c = 50 ∨ c = 53) : rc_ok c cfo := fun j => by
  have e : (cfo j).toInt = if j = 2 then 1 else 0 := by
    unfold cfo
    split <;> rfl
  rw [e]
  unfold lcC hcC
  constructor <;> (repeat' split) <;> omega
theorem rc_h {c : Nat} {f : Nat → Int32} (h : 70 ≤ c ∧ c % 8 = 7) (hf : ∀ j : Nat, f j = 0 ∨ f j = -1) : rc_ok c f := fun j => by
  have e : (f j).toInt = 0 ∨ (f j).toInt = -1 := (hf j).elim (fun e => Or.inl (by rw [e]; rfl)) (fun e => Or.inr (by rw [e]; rfl))
  unfold lcC hcC
  constructor <;> (repeat' split) <;> omega
theorem rc_a {c : Nat} {f : Nat → Int32} (h : c = 27 ∨ c = 30 ∨ c = 51 ∨ c = 54) : rc_ok c f := fun j => by
  have h1 := ti_lo (f j)
  have h2 := ti_hi (f j)
  unfold lcC hcC
  constructor <;> (repeat' split) <;> omega
def rc_l : Nat → List (Nat → Int32) → Prop
  | _, [] => True
  | i, f :: L => rc_ok i f ∧ rc_l (i + 1) L
theorem rc_at : ∀ (L : List (Nat → Int32)) (i n : Nat), rc_l i L → rc_ok (i + n) (L.getD n cz)
  | [], _, _, _ => rc_z
  | f :: L, i, 0, h => h.1
  | f :: L, i, n + 1, h => by
    have g := rc_at L (i + 1) n h.2
    rw [show i + 1 + n = i + (n + 1) by omega] at g
    exact g
theorem rc_of {L : List (Nat → Int32)} (h : rc_l 0 L) : RC 0 (fun i => L.getD i cz) := fun c j => by
  have g := rc_at L 0 c h
  rw [Nat.zero_add] at g
  exact g j
-- a contract that starts with the statics too
theorem p_ofz {S : Type} {post : S → Prop} {w1 : S → va_W} {l : Launch} {y : MethodName} {wy wy' : List Cond} {rm : Room} {D : va_G} {k : Nat → ClassId} {z : Nat → Nat} {av : List Value} {ws : va_W} {sz : Nat} {mc ms : Nat} {cc : ByteArray} {maxL : Nat} (hy : plainName y.cls = true) (hw : wy = Cond.code y cc maxL none :: wy') (hsl : (lg_sl av).length ≤ maxL)
    (body : ∀ (p : Program) (e : Env) (s : State) (m : MethodId) (below : List Frame) (meth : Method) (c : Code), p.tables.exec = Jvm.exec → c.code = cc → c.maxLocals = maxL → s.vm.findClass y.cls = some m.cls → (∀ w ∈ wy, w.before av.toArray s = true) → meth.name = y.name → va_K D vwCl (pT k) s → ∀ (A : Nat → Prop), fN z A s s.heap → (∀ q : Nat, s.heap.size ≤ q → A q) → va_P D vwCl ws s.heap → va_D A ws → va_S A s.heap s.heap [] → ∀ (Q : State → Prop),
      (∀ (pc : Nat) (ls : Array Slot) (H : Heap) (locs : List Loc) (ce sl : Nat) (u : S), ce ≤ mc → sl ≤ ms → decode cc pc = .ok (.return_, 1) → post u → va_P D vwCl (w1 u) H → va_D A (w1 u) → va_S A s.heap H locs → W p l e rm s m av.toArray below meth c H locs ce sl Q (F0 m pc ls [])) →
      ∀ (ls : Array Slot), lv_has ls maxL (lv_args 0 av) → W p l e rm s m av.toArray below meth c s.heap [] 0 0 Q (F0 m 0 ls [])) : Met l y wy rm (va_Pc av (f_Pre D k z ws sz)) (va_Qv post (pB D ws sz w1) (va_A ws sz)) mc ms (va_A ws sz) := by
  refine Met.ofW (cc := cc) (maxL := maxL) (ret := none) hy hw ?_
  intro p e s m args below meth c s₁ B hml hv
  obtain ⟨rfl, hsz, hP, hK, hN, hD0⟩ := hv
  have hx := B.exec
  have hb := B.bytes
  have hr := B.returns
  have hts := atoms_spec (ws := wy) B.pre
  have hown : s.vm.findClass y.cls = some m.cls := findClass_of_methodNamed B.named
  have hlocks := B.notSynchronized
  have hin : meth.name = y.name := (name_of_methodNamed B.named B.method).1
  subst hsz
  have hD := hD0.self (sz := s.heap.size)
  have hl := lv_entry av (n := maxL) hsl
  rw [lg_entry_eq]
  exact body p e s m below meth c hx hb hml hown hts hin hK (va_A ws s.heap.size) hN (fun q h => Or.inr h) hP hD va_S.rf _ (fun pc ls H locs ce sl u h1 h2 hd hpost hP1 hD1 hS => W.widen h1 h2 (W.vret hx hb hr (fun t ht hW => ⟨⟨u, rfl, hpost, by rw [ht]; exact hP1, hD1⟩, hS.F ht⟩) hS.2.2 hd hlocks)) _ hl
-- where the statics lie does not hang on the objects' places
theorem fN.co {q z : Nat → Nat} {A : Nat → Prop} {U : State} {H : Heap} (e : ∀ i, 1000 ≤ i → q i = z i) (h : fN z A U H) : fN q A U H := by
  have e1 : ∀ j, q (1000 + j) = z (1000 + j) := fun j => e _ (by omega)
  have e2 : q 1031 = z 1031 := e _ (by omega)
  have e3 : q 1032 = z 1032 := e _ (by omega)
  have e4 : q 1033 = z 1033 := e _ (by omega)
  have e5 : q 1034 = z 1034 := e _ (by omega)
  obtain ⟨h0, h1, h2, h3, h4, h5⟩ := h
  refine ⟨h0, fun o ho => ?_, ?_, ?_, ?_, h5⟩
  · have g := h1 o ho
    unfold zW at g ⊢
    rw [e1]
    exact g
  · have e6 : (fun j => Value.ref (q (1000 + j))) = fun j => Value.ref (z (1000 + j)) := funext fun j => by rw [e1]
    unfold zT at h2 ⊢
    rw [e2, e3, e6]
    exact h2
  · unfold zG at h3 ⊢
    rw [e4, e5]
    exact h3
  · rw [e4]
    exact h4
theorem mi_good {a1 a2 a3 a4 a5 cd : Cond} (h1 : a1 ∈ gT) (h2 : a2 ∈ gT) (h3 : a3 ∈ gT) (h4 : a4 ∈ gT) (h5 : a5 ∈ gT) : GoodIn (cd :: gT) ([a1, a2, a3, a4, a5] ++ gT) := fun w hw => by
  have h : w ∈ gT := (List.mem_append.mp hw).elim (lw_ws h1 h2 h3 h4 h5 w) id
  exact ⟨List.mem_cons_of_mem _ h, good_of_word (gT_ok w h)⟩
-- a call on the one world there is, nothing beneath it
theorem f_callX {p : Program} {l : Launch} {e : Env} {R : Room} {s : State} {m : MethodId} {args : Array Value} {below : List Frame} {meth : Method} {c : Code} {H : Heap} {locs : List Loc} {cells slots : Nat} {Q : State → Prop} {ls : Array Slot} {A : Nat → Prop} {D : va_G} {k : Nat → ClassId} {pc : Nat} {st : List Value} {cc : ByteArray} {nL : Nat} {Ts : List Cond} {own : String} {sh : List f_X} {T : List Cond} {mt : Nat → Option f_T} {q : Nat → Nat} {h : f_H} (S : CallFix p m c cc nL s args Ts own) (hK : va_K D vwCl (pT k) s) (hN : fN q A s s.heap) (hA : ∀ q : Nat, s.heap.size ≤ q → A q) (hmt : ∀ m t, mt m = some t → f_mok l sh T mt t) {ci : Nat} {ks : List Nat} (hsh : sh[0]? = some (.inr (ci, ks))) {d mm N idx maxL : Nat} {TT : u_T} {y : MethodName} {bytes : ByteArray} {rt : Option FieldType} {tb : f_C → List (Nat × f_I)} {as : List f_V} {Qf : Option f_V → f_H → Prop} (ht : mt mm = some (y, bytes, maxL, rt, tb)) (w : f_call mt d mm (.inr (.inr (some 0)) :: as) h Qf) (hcl : vwCl[ci]? = some (y.cls, TT, N)) (hy : y.cls ≠ "java/lang/invoke/MethodHandle" ∧ y.cls ≠ "java/lang/invoke/VarHandle" ∧ (parseMethodDescriptor y.desc).map (fun d => d.parameters.length) = some as.length)
    (hG : GoodIn Ts (wsV own idx y.cls y (Cond.code y bytes maxL rt :: T))) (hR : d + 1 ≤ R.frames ∧ 16 + (maxL + 11) + 96 * d ≤ R.locals) (hdg : decode cc pc = .ok (.invokevirtual idx, 3)) (hls : ls.size = nL) (hst : st = (as.map (f_v q)).reverse ++ [Value.ref (q 0)]) (hcs : cells ≤ R.cells ∧ slots ≤ R.slots) (hP : va_P D vwCl (f_w sh k q h) H) (hD : va_D A (f_w sh k q h)) (hS : va_S A s.heap H locs)
    (kk : ∀ (r : Option f_V) (h' : f_H) (H1 : Heap) (locs1 : List Loc), Qf r h' → va_P D vwCl (f_w sh k q h') H1 → va_D A (f_w sh k q h') → va_S A s.heap H1 locs1 → W p l e R s m args below meth c H1 locs1 cells slots Q (F0 m (pc + 3) ls ((r.map (f_v q)).toList ++ []))) : W p l e R s m args below meth c H locs cells slots Q (F0 m pc ls st) := by
  obtain ⟨r, h', hq, hM⟩ := f_get hmt ht w
  have hM := hM D k q H.size
  dsimp only at hM
  have hP2 : va_P D vwCl (f_w sh k q h ++ []) H := by rw [List.append_nil]; exact hP
  have hD2 : va_D A (f_w sh k q h ++ []) := by rw [List.append_nil]; exact hD
  have hrun := f_runV (R := R) (p := p) (e := e) (below := below) (meth := meth) (locs := locs) (cells := cells) (slots := slots) (g := F0 m pc ls st) (As := as.map (f_v q)) (rest := []) (b := q 0) S hM (cwV as.length S.2.2.2.2 hG rfl rfl rfl ⟨rfl, hy⟩ ⟨hR.1, show 8 + (maxL + 11) + 96 * d ≤ R.locals by omega⟩) (show 16 + (maxL + 11) + 96 * d ≤ R.locals from hR.2)
    ⟨f_Blind, va_recv hK hP hcl (f_w_get hsh), (f_lpre hK hN hP2 hD2 hS hA).2⟩ rfl (by rw [List.length_map]) hls hst (f_room16 (by simp)) hdg ⟨hcs.1, hcs.2⟩
  refine f_lawW hA hP2 hD2 hS hrun (fun H1 locs1 g1 g2 g3 => ?_)
  rw [List.append_nil] at g1 g2
  exact kk r h' H1 locs1 hq g1 g2 g3
