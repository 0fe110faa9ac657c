-- a line's cursor doesn't go back
theorem rvC_le {t : Nat → Int32} {z c : Nat} : c ≤ rvC t z c := by
  unfold rvC ofC opC
  repeat' split
  all_goals omega
theorem lnF_le {t : Nat → Int32} {z f : Nat} {s : LDS} : s.1 ≤ (lnF t z f s).2.1 := by
  unfold lnF
  split
  · exact rvC_le
  · split
    · exact Nat.le_add_right _ _
    · split
      · exact Nat.le_refl _
      · split
        · exact Nat.le_refl _
        · split
          · exact Nat.le_add_right _ _
          · split
            · exact Nat.le_add_right _ _
            · exact Nat.le_trans (Nat.le_succ _) (exF_le _ _ _ _)
theorem LNL.le {t : Nat → Int32} {z : Nat} {s : LDS} {r : Int × LDS} (h : LNL t z s r) : s.1 ≤ r.2.1 := by
  obtain ⟨f, hf⟩ := h
  rw [← hf f (Nat.le_refl _)]
  exact lnF_le
-- the class's reading of a land, behind k lines
def LDC (t : Nat → Int32) (z N L : Nat) (k : Int) (a : Nat → Nat → Int32) (b : Nat → Nat → Int64) (v : Nat → Option Nat) : Prop := (∃ s : LDS, k ≤ (s.1 : Int) ∧ CSt t z N s.1 a b v ∧ CLN t z L s.2.1 s.2.2.1 a b ∧ OB s.2.2.2 (a 6 8) ∧ ∀ r, LD t z s r → LD t z ld0 r) ∨ (∃ (s : LDS) (F : Int), ¬ F = 0 ∧ (a 6 10).toInt = F ∧ LD t z ld0 (F, s))
-- what is known at its end
def LDE (t : Nat → Int32) (z L : Nat) (F : Int) (a : Nat → Nat → Int32) (b : Nat → Nat → Int64) : Prop := ∃ s : LDS, LD t z ld0 (F, s) ∧ (F = 0 → CLN t z L s.2.1 s.2.2.1 a b)
section LDCS
variable {t : Nat → Int32} {z N L : Nat} {k k' : Int} {s : LDS} {r : Int × LDS} {x y : Int32} {a a' : Nat → Nat → Int32} {b b' : Nat → Nat → Int64} {v v' : Nat → Option Nat}
theorem LDC.bad (hk : ¬ lxK t z s.1 = 0) (hs : ∀ q, LD t z s q → LD t z ld0 q) (hl : LNL t z s r) (hp : PSt t z N r.2.1 r.1 x a b v) (hx : x.toInt = 0) : LDC t z N L k a b v := by
  obtain ⟨e, s1⟩ := r
  obtain ⟨h1, h2⟩ := hp.not hx
  exact Or.inr ⟨s1, e, h1, h2, hs _ (LD.bad hk hl h1)⟩
theorem LDC.step (hL : L = 22 ∨ L = 46) (hk : ¬ lxK t z s.1 = 0) (hs : ∀ q, LD t z s q → LD t z ld0 q) (hl : LNL t z s r) (h0 : r.1 = 0) (hle : k ≤ (s.1 : Int)) (hC : CLN t z L r.2.2.1 r.2.2.2.1 a b) (hO : OB r.2.2.2.2 (a 6 8)) (hp : PSt t z N (r.2.1 + 1) (tkG t z r.2.1 59) y a' b' v') (hF : FR [1, 6] a a') (h6 : ∀ j, j ≠ 10 → a' 6 j = a 6 j) (hb : BF b b') (hk' : k' = k + 1) : LDC t z N L k' a' b' v' := by
  obtain ⟨e, c1, s1⟩ := r
  have h0 : e = 0 := h0
  subst h0
  have g := hl.le
  rcases hp with ⟨h1, h2, h3⟩ | ⟨h1, h2, h3⟩
  · refine Or.inl ⟨(c1 + 1, s1), ?_, h3, ?_, ?_, fun q hq => hs q (LD.next hk hl h2 hq)⟩
    · have g : s.1 ≤ c1 := g
      show k' ≤ ((c1 + 1 : Nat) : Int)
      omega
    · exact hC.same hL (fun i hi => hF i (by simp only [List.mem_cons, List.not_mem_nil, or_false, not_or]; omega)) hb
    · show OB s1.2.2 (a' 6 8)
      rw [h6 8 (by decide)]
      exact hO
  · exact Or.inr ⟨(c1, s1), _, h2, h3, hs _ (LD.sign hk hl h2)⟩
theorem LDC.end1 (h : LDC t z N L k a b v) (g : ¬ ((a 6 10).toInt = 0 ∧ ¬ (a 1 7).toInt = 0)) : LDE t z L (a 6 10).toInt a b := by
  rcases h with ⟨s, h1, h2, h3, h4, h5⟩ | ⟨s, F, h1, h2, h3⟩
  · have e := h2.2.1
    have kz : lxK t z s.1 = 0 := h2.1.kin.mp (by omega)
    rw [e]
    exact ⟨s, h5 _ (LD.end kz), fun _ => h3⟩
  · rw [h2]
    exact ⟨s, h3, fun q => absurd q h1⟩
theorem LDC.end2 (h : LDC t z N L k a b v) (hk : 1000 < k) : LDE t z L (a 6 10).toInt a b := by
  rcases h with ⟨s, h1, h2, h3, h4, h5⟩ | ⟨s, F, h1, h2, h3⟩
  · have e := h2.pl
    omega
  · rw [h2]
    exact ⟨s, h3, fun q => absurd q h1⟩
theorem LDE.same {F : Int} (h : LDE t z L F a b) (hL : L = 22 ∨ L = 46) (ha : ∀ i, i = L ∨ i = L + 2 ∨ i = L + 3 ∨ (L + 12 ≤ i ∧ i < L + 24) → a' i = a i) (hb : ∀ i, i ≠ 1 → b' i = b i) : LDE t z L F a' b' := by
  obtain ⟨s, h1, h2⟩ := h
  exact ⟨s, h1, fun q => (h2 q).same hL ha hb⟩
end LDCS
theorem y_X6_begin {d K : Nat} (a : Nat → Nat → Int32) (b : Nat → Nat → Int64) (v : Nat → Option Nat) (L : Nat) (t : Nat → Int32) (z : Nat) (hd : 7 ≤ d) (hR : RC K a) (hL : L = 22 ∨ L = 46) (hf : ∀ j : Nat, (j : Int) < (a 1 6).toInt → 0 ≤ (a 2 j).toInt ∧ (a 2 j).toInt ≤ 127) (ht : a 2 = t) (hz0 : (a 1 6).toInt.toNat = z) : f_pc mtC d 44 [.inr (.inr (some 6)), .inr (.inr (some L))] (cH a b v) (fun v9 h' => ∃ (a' : Nat → Nat → Int32) (b' : Nat → Nat → Int64) (v' : Nat → Option Nat), h' = cH a' b' v' ∧ (FR [1, 3, 4, 6] a a' ∧ ((∀ i, i ∉ [2, 3] → v' i = v i) ∧ (f_wdb (v' 2) = true ∧ v' 3 = some L ∧ ∃ N : Nat, PC t z N 0 a' b' v')) ∧ ((a' 6 10).toInt = 0)) ∧ v9 = none) := by
  subst ht
  subst hz0
  exact f_pc.mono ((s_X6_begin_1 (K := K) a b v L hR hL hf).tp hd) (fun r9 h9 q => by
    obtain ⟨a9, b9, v9, e9, -, f9, r9⟩ := q
    exact ⟨a9, b9, v9, e9, f9, r9⟩)
theorem f_call.pcd {mt : Nat → Option f_T} {d0 m : Nat} {as : List f_V} {h : f_H} {Q Q' : Option f_V → f_H → Prop} (w : f_call mt d0 m as h Q) (p : ∀ d, d0 ≤ d → f_pc mt d m as h Q') : f_call mt d0 m as h (fun r h' => Q r h' ∧ Q' r h') := fun d hd => by
  obtain ⟨z, hz, hq⟩ := w d hd
  exact ⟨z, hz, hq, p d hd z hz⟩
-- what is known behind readLand: also whom each might wed
def LDF (t : Nat → Int32) (z L : Nat) (F : Int) (a : Nat → Nat → Int32) (b : Nat → Nat → Int64) : Prop := ∃ s : LDS, LD t z ld0 (F, s) ∧ (F = 0 → CLN t z L s.2.1 s.2.2.1 a b ∧ FIT L s.2.1 a)
theorem LDE.nf {t : Nat → Int32} {z L : Nat} {F : Int} {a : Nat → Nat → Int32} {b : Nat → Nat → Int64} (h : LDE t z L F a b) (hF : ¬ F = 0) : LDF t z L F a b := by
  obtain ⟨s, h1, -⟩ := h
  exact ⟨s, h1, fun q => absurd q hF⟩
theorem LDF.same {t : Nat → Int32} {z L : Nat} {F : Int} {a a' : Nat → Nat → Int32} {b b' : Nat → Nat → Int64} (h : LDF t z L F a b) (hL : L = 22 ∨ L = 46) (ha : ∀ i, i = L ∨ i = L + 2 ∨ i = L + 3 ∨ i = L + 10 ∨ (L + 12 ≤ i ∧ i < L + 24) → a' i = a i) (hb : ∀ i, i ≠ 1 → b' i = b i) : LDF t z L F a' b' := by
  obtain ⟨s, h1, h2⟩ := h
  exact ⟨s, h1, fun q => ⟨(h2 q).1.same hL (fun i hi => ha i (by omega)) hb, (h2 q).2.same (ha _ (by omega))⟩⟩
