-- sets as bits
def fb (P : Nat → Bool) : Nat → Nat
  | 0 => 0
  | n + 1 => if P n = true then fb P n + 2 ^ n else fb P n
theorem fb_y {P : Nat → Bool} {n : Nat} (h : P n = true) : fb P (n + 1) = fb P n + 2 ^ n := if_pos h
theorem fb_n {P : Nat → Bool} {n : Nat} (h : ¬ P n = true) : fb P (n + 1) = fb P n := if_neg h
theorem fb_lt {P : Nat → Bool} : ∀ n : Nat, fb P n < 2 ^ n
  | 0 => Nat.zero_lt_one
  | n + 1 => by
    have ih := fb_lt (P := P) n
    have e : 2 ^ (n + 1) = 2 ^ n * 2 := Nat.pow_succ _ _
    by_cases h : P n = true
    · rw [fb_y h]
      omega
    · rw [fb_n h]
      omega
theorem fb_64 {P : Nat → Bool} {n : Nat} (hn : n ≤ 6) : fb P n < 64 := Nat.lt_of_lt_of_le (fb_lt n) (Nat.pow_le_pow_right (by decide) hn)
theorem fb_0 {P : Nat → Bool} : ∀ n : Nat, fb P n = 0 ↔ ∀ m, m < n → ¬ P m = true
  | 0 => ⟨fun _ m hm => absurd hm (Nat.not_lt_zero m), fun _ => rfl⟩
  | n + 1 => by
    have ih := fb_0 (P := P) n
    have p2 : 0 < 2 ^ n := Nat.pow_pos (by decide)
    by_cases h : P n = true
    · rw [fb_y h]
      exact ⟨fun q => absurd q (by omega), fun q => absurd h (q n (by omega))⟩
    · rw [fb_n h, ih]
      refine ⟨fun q m hm => ?_, fun q m hm => q m (by omega)⟩
      rcases Nat.lt_or_ge m n with g | g
      · exact q m g
      · rw [show m = n from by omega]
        exact h
theorem fb_ext {P Q : Nat → Bool} : ∀ n : Nat, (∀ m, m < n → P m = Q m) → fb P n = fb Q n
  | 0, _ => rfl
  | n + 1, h => by
    show (if P n = true then fb P n + 2 ^ n else fb P n) = (if Q n = true then fb Q n + 2 ^ n else fb Q n)
    rw [fb_ext n (fun m hm => h m (by omega)), h n (by omega)]
theorem fbit_or : ∀ m, m < 6 → ∀ k, k < 2 ^ m → nI k ||| ((1 : Int32) <<< (nI m &&& 31)) = nI (k + 2 ^ m) := by decide +kernel
theorem nI_or : ∀ x, x < 64 → ∀ y, y < 64 → (nI x ||| nI y = nI (x ||| y) ∧ x ||| y < 64) := by decide +kernel
theorem nI_sh : ∀ m, m < 6 → ((1 : Int32) <<< (nI m &&& 31) = nI (2 ^ m) ∧ 2 ^ m < 64) := by decide +kernel
theorem nIq_of {m : Int32} {n : Nat} (hm : m.toInt = (n : Int)) (hn : n < 2147483648) : m = nI n := ti_eq (by rw [hm, nI_toInt (by omega)])
theorem SB.y {P : Nat → Bool} {n : Nat} {x y z m : Int32} (h : x = nI (fb P n)) (hn : n < 6) (hP : P n = true) (hm : m.toInt = (n : Int)) (e1 : y = (1 : Int32) <<< (m &&& 31)) (e2 : z = x ||| y) {k : Nat} (hk : k = n + 1) : z = nI (fb P k) := by
  have e : m = nI n := nIq_of hm (by omega)
  rw [hk, e2, e1, h, e, fb_y hP]
  exact fbit_or n hn _ (fb_lt n)
theorem SB.k {P : Nat → Bool} {n k : Nat} {x : Int32} (h : x = nI (fb P n)) (hP : ¬ P n = true) (hk : k = n + 1) : x = nI (fb P k) := by
  rw [hk, fb_n hP]
  exact h
theorem SB.n {P : Nat → Bool} {n k : Nat} {x z : Int32} (h : x = nI (fb P n)) (hP : ¬ P n = true) (e2 : z = x ||| 0) (hk : k = n + 1) : z = nI (fb P k) := by
  rw [e2, Int32.or_zero]
  exact SB.k h hP hk
theorem SB.zero {P : Nat → Bool} {n : Nat} {x : Int32} (h : x = nI (fb P n)) (hn : n ≤ 6) : x.toInt = 0 ↔ ∀ m, m < n → ¬ P m = true := by
  have h6 := fb_64 (P := P) hn
  rw [← fb_0 n, h, nI_toInt (by omega)]
  omega
noncomputable def pBq (p : Prop) : Bool := @decide p (Classical.propDecidable p)
theorem pBq_iff {p : Prop} : pBq p = true ↔ p := @decide_eq_true_iff p (Classical.propDecidable p)
-- whom a river might wed if nobody were wed
def fitP (V : Nat → Int) (i j : Nat) : Prop := ¬ i = j ∧ ¬ V (7 + 14 * i + 0) = 3 ∧ ¬ V (7 + 14 * j + 0) = 3 ∧ V (7 + 14 * j + 2) ≤ V (7 + 14 * i + 2) ∧ V (7 + 14 * i + 2) < V (7 + 14 * j + 1) ∧ V 2 < FW V 6 (6 * i + j)
noncomputable def FF (V : Nat → Int) (w : Nat) : Nat := fb (fun m => pBq (fitP V w m)) (V 0).toNat
def FIT (L : Nat) (V : Nat → Int) (a : Nat → Nat → Int32) : Prop := ∀ w : Nat, (w : Int) < V 0 → a (L + 10) w = nI (FF V w)
theorem FIT.same {L : Nat} {V : Nat → Int} {a a' : Nat → Nat → Int32} (h : FIT L V a) (e : a' (L + 10) = a (L + 10)) : FIT L V a' := fun w hw => by
  rw [e]
  exact h w hw
theorem FF_64 {V : Nat → Int} (hG : GV V) (w : Nat) : FF V w < 64 := fb_64 (by have g := hG.1; omega)
theorem ks_fw2 {V : Nat → Int} (hG : GV V) {i j x : Int32} (hi : 0 ≤ i.toInt ∧ i.toInt < V 0) (hj : 0 ≤ j.toInt ∧ j.toInt < V 0) (h : KSR V i.toInt j.toInt x.toInt) : x.toInt = FW V 6 (6 * i.toInt.toNat + j.toInt.toNat) := by
  have ei : i.toInt = ((i.toInt.toNat : Nat) : Int) := by omega
  have ej : j.toInt = ((j.toInt.toNat : Nat) : Int) := by omega
  rw [ei, ej] at h
  exact ks_fw hG (by omega) (by omega) h
-- ENDS
def wdN (F : Nat → Nat) : Nat → Nat
  | 0 => 0
  | n + 1 => if F n = 0 then wdN F n else wdN F n ||| (F n ||| 2 ^ n)
theorem wdN_lt {F : Nat → Nat} (hF : ∀ w, F w < 64) : ∀ n : Nat, n ≤ 6 → wdN F n < 64
  | 0, _ => by
    show (0 : Nat) < 64
    decide
  | n + 1, hn => by
    have ih := wdN_lt hF n (by omega)
    show (if F n = 0 then wdN F n else wdN F n ||| (F n ||| 2 ^ n)) < 64
    split
    · exact ih
    · exact (nI_or _ ih _ (nI_or _ (hF n) _ (nI_sh n (by omega)).2).2).2
def edR (n k : Nat) : Int32 := (((1 : Int32) <<< (nI n &&& 31)) - 1) &&& (nI k ^^^ (-1))
def ENDR (V : Nat → Int) (x : Int32) : Prop := x = edR (V 0).toNat (wdN (FF V) (V 0).toNat)
theorem wd_n {F : Nat → Nat} {n : Nat} {k x : Int32} (h : k = nI (wdN F n)) (hF : F n < 64) (hx : x = nI (F n)) (h0 : x.toInt = 0) {m : Nat} (hm : m = n + 1) : k = nI (wdN F m) := by
  rw [hx, nI_toInt (by omega)] at h0
  subst hm
  show k = nI (if F n = 0 then wdN F n else wdN F n ||| (F n ||| 2 ^ n))
  rw [if_pos (by omega)]
  exact h
theorem wd_y {F : Nat → Nat} {n : Nat} {k x y z u m : Int32} (h : k = nI (wdN F n)) (hF : ∀ w, F w < 64) (hn : n < 6) (hx : x = nI (F n)) (h0 : ¬ x.toInt = 0) (hm : m.toInt = (n : Int)) (e1 : y = (1 : Int32) <<< (m &&& 31)) (e2 : z = x ||| y) (e3 : u = k ||| z) {j : Nat} (hj : j = n + 1) : u = nI (wdN F j) := by
  subst hj
  have e : m = nI n := nIq_of hm (by omega)
  have f0 : ¬ F n = 0 := fun q => h0 (by rw [hx, q]; rfl)
  have s := nI_sh n hn
  have o1 := nI_or _ (hF n) _ s.2
  have o2 := nI_or _ (wdN_lt hF n (by omega)) _ o1.2
  show u = nI (if F n = 0 then wdN F n else wdN F n ||| (F n ||| 2 ^ n))
  rw [if_neg f0, e3, e2, e1, e, s.1, hx, o1.1, h, o2.1]
theorem ENDR.mk {V : Nat → Int} (hG : GV V) {r k y z u x : Int32} (hr : r.toInt = V 0) (hk : k = nI (wdN (FF V) (V 0).toNat)) (e1 : y = (1 : Int32) <<< (r &&& 31)) (e2 : z = y - 1) (e3 : u = k ^^^ (-1)) (e4 : x = z &&& u) : ENDR V x := by
  have g := hG.1
  have e : r = nI (V 0).toNat := nIq_of (by omega) (by omega)
  show x = _ &&& _
  rw [e4, e2, e1, e3, hk, e]
-- whom a river may wed, as hu are wed
def HUS (q : Nat) (hu : Nat → Int) (a : Nat → Nat → Int32) : Prop := ∀ r : Nat, r < 6 → (a 15 (q + 1 + r)).toInt = hu r
theorem HUS.same {q : Nat} {hu : Nat → Int} {a a' : Nat → Nat → Int32} (h : HUS q hu a) (e : ∀ r, r < 6 → a' 15 (q + 1 + r) = a 15 (q + 1 + r)) : HUS q hu a' := fun r hr => by
  rw [e r hr]
  exact h r hr
def chn (hu : Nat → Int) (h : Int) : Nat → Int
  | 0 => h
  | n + 1 => if chn hu h n < 0 then -1 else hu (chn hu h n).toNat
theorem chn_s {hu : Nat → Int} {h : Int} {n : Nat} : chn hu h (n + 1) = if chn hu h n < 0 then -1 else hu (chn hu h n).toNat := rfl
theorem chn_y {hu : Nat → Int} {h : Int} {n : Nat} (h0 : ¬ chn hu h n < 0) : chn hu h (n + 1) = hu (chn hu h n).toNat := if_neg h0
theorem chn_no {hu : Nat → Int} {h : Int} {n : Nat} (h0 : chn hu h n < 0) : ∀ m : Nat, n ≤ m → chn hu h m < 0
  | 0, hm => by
    have e : n = 0 := by omega
    rw [e] at h0
    exact h0
  | m + 1, hm => by
    rcases Nat.lt_or_ge m n with g | g
    · rw [show m + 1 = n from by omega]
      exact h0
    · rw [chn_s, if_pos (chn_no h0 m g)]
      decide
def rngP (hu : Nat → Int) (h w : Nat) : Prop := ∃ n : Nat, chn hu (h : Int) n = (w : Int)
def mayP (V : Nat → Int) (hu : Nat → Int) (w h : Nat) : Prop := (fitP V w h ∧ hu w < 0) ∧ ¬ rngP hu h w ∧ (¬ V (7 + 14 * h + 0) = 1 ∨ ∀ r : Nat, (r : Int) < V 0 → ¬ hu r = (h : Int))
noncomputable def MB (V : Nat → Int) (hu : Nat → Int) (w : Nat) : Nat → Bool := fun h => pBq (mayP V hu w h)
theorem mayP_none {V : Nat → Int} {w h : Nat} : mayP V (fun _ => -1) w h ↔ fitP V w h := by
  refine ⟨fun q => q.1.1, fun q => ⟨⟨q, by show (-1 : Int) < 0; decide⟩, fun ⟨n, hn⟩ => ?_, Or.inr (fun r _ => by show ¬ (-1 : Int) = (h : Int); omega)⟩⟩
  have q1 := q.1
  cases n with
  | zero =>
    have hn : (h : Int) = (w : Int) := hn
    omega
  | succ n =>
    rw [chn_s] at hn
    split at hn <;> omega
theorem MB_none {V : Nat → Int} {w n : Nat} : fb (MB V (fun _ => -1) w) n = fb (fun m => pBq (fitP V w m)) n := fb_ext n (fun m _ => by
  unfold MB
  rw [show mayP V (fun _ => -1) w m = fitP V w m from propext mayP_none])
-- the ring, on the model's way
def MJ (P : Prop) (hu : Nat → Int) (h w : Nat) (m o : Int) : Prop := (m = 1 ∧ P ∧ ∃ n : Nat, o = chn hu (h : Int) n ∧ ∀ q, q < n → ¬ chn hu (h : Int) q = (w : Int)) ∨ (m = 0 ∧ ¬ (P ∧ ¬ rngP hu h w))
theorem MJ.at0 {P : Prop} {hu : Nat → Int} {h w : Nat} {m o : Int} (g : (m = 1 ∧ P) ∨ (m = 0 ∧ ¬ P)) (ho : o = (h : Int)) : MJ P hu h w m o := by
  rcases g with g | g
  · exact Or.inl ⟨g.1, g.2, 0, ho, fun q hq => absurd hq (Nat.not_lt_zero q)⟩
  · exact Or.inr ⟨g.1, fun g1 => g.2 g1.1⟩
theorem MJ.step {P : Prop} {hu : Nat → Int} {h w : Nat} {m o x m' : Int} (hJ : MJ P hu h w m o) (hm : ¬ m = 0) (ho : ¬ o < 0) (hx : x = hu o.toNat) (hs : (o = (w : Int) ∧ m' = 0) ∨ (¬ o = (w : Int) ∧ m' = 1)) : MJ P hu h w m' x := by
  rcases hJ with ⟨-, p, n, e, f⟩ | ⟨z, -⟩
  · rcases hs with ⟨e1, e2⟩ | ⟨e1, e2⟩
    · exact Or.inr ⟨e2, fun q => q.2 ⟨n, by rw [← e]; exact e1⟩⟩
    · refine Or.inl ⟨e2, p, n + 1, ?_, fun q hq => ?_⟩
      · rw [chn_y (by rw [← e]; exact ho), ← e]
        exact hx
      · rcases (by omega : q < n ∨ q = n) with g | g
        · exact f q g
        · rw [g, ← e]
          exact e1
  · exact absurd z hm
theorem MJ.fin {P : Prop} {hu : Nat → Int} {h w : Nat} {m o : Int} (hJ : MJ P hu h w m o) (hx : m = 0 ∨ o < 0) : (m = 1 ∧ P ∧ ¬ rngP hu h w) ∨ (m = 0 ∧ ¬ (P ∧ ¬ rngP hu h w)) := by
  rcases hJ with ⟨e1, p, n, e, f⟩ | r
  · refine Or.inl ⟨e1, p, fun ⟨k, hk⟩ => ?_⟩
    rcases Nat.lt_or_ge k n with g | g
    · exact f k g hk
    · have h9 := chn_no (hu := hu) (h := (h : Int)) (n := n) (by rw [← e]; omega) k g
      omega
  · exact Or.inr r
theorem may_y {P R K : Prop} {m : Int} (F : (m = 1 ∧ P ∧ ¬ R) ∨ (m = 0 ∧ ¬ (P ∧ ¬ R))) (hm : ¬ m = 0) (k : K) : P ∧ ¬ R ∧ K := by
  rcases F with q | q
  · exact ⟨q.2.1, q.2.2, k⟩
  · exact absurd q.1 hm
theorem wd_z {F : Nat → Nat} {n : Nat} {k x z : Int32} (h : k = nI (wdN F n)) (hF : F n < 64) (hx : x = nI (F n)) (h0 : x.toInt = 0) (e : z = k ||| 0) {m : Nat} (hm : m = n + 1) : z = nI (wdN F m) := by
  rw [e, Int32.or_zero]
  exact wd_n h hF hx h0 hm
