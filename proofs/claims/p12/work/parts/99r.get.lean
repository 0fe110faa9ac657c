-- out of a row of the small machine: the contract over the large one
theorem f_get {l : Launch} {sh : List f_X} {T : List Cond} {mt : Nat → Option f_T} (hmt : ∀ m t, mt m = some t → f_mok l sh T mt t) {d m : Nat} {t : f_T} {as : List f_V} {h : f_H} {Q : Option f_V → f_H → Prop} (ht : mt m = some t) (w : f_call mt d m as h Q) : ∃ (r : Option f_V) (h' : f_H), Q r h' ∧ f_M l sh T t.1 t.2.1 t.2.2.1 t.2.2.2.1 (f_room d) as h r h' := by
  obtain ⟨z, hz, hq⟩ := w d (Nat.le_refl d)
  exact ⟨z.1, z.2, hq, f_ev_ok hmt d m t as h z ht hz⟩
-- what ties the two: the same signs on both tapes, all of them plain; the model's words are as told
-- the land: the same on both sides
def LDR (aC : Nat → Nat → Int32) (v : Nat → Option Nat) (aM : Nat → Nat → Int32) : Prop := ∃ (L : Nat) (V : Nat → Int), v 0 = some L ∧ (L = 22 ∨ L = 46) ∧ CLI L V aC ∧ LRL V aM ∧ GV V ∧ FIT L V aC
theorem LDR.kp {aC aC1 aM aM1 : Nat → Nat → Int32} {v v1 : Nat → Option Nat} (h : LDR aC v aM) (p : LCK aC v aC1 v1) (q : LMK aM aM1) : LDR aC1 v1 aM1 := by
  obtain ⟨L, V, h1, h2, h3, h4, h5, h6⟩ := h
  exact ⟨L, V, p.1.trans h1, h2, h3.same (fun i hi => p.2 L h1 h2 i (by omega)) h5, h4.same q, h5, h6.same (p.2 L h1 h2 (L + 10) (by omega))⟩
def TR (aC : Nat → Nat → Int32) (v : Nat → Option Nat) (aM : Nat → Nat → Int32) (bM : Nat → Nat → Int64) : Prop := MW bM ∧ TL (aC 2) (aC 1 6).toInt.toNat = TL (aM 1) (aM 0 2).toInt.toNat ∧ (∀ x ∈ TL (aM 1) (aM 0 2).toInt.toNat, fP x) ∧ MK (mrC aC) (aM 16) ∧ LDR aC v aM
-- both objects are between two calls
def IB (K : Nat) (aC : Nat → Nat → Int32) (v : Nat → Option Nat) (aM : Nat → Nat → Int32) (bM : Nat → Nat → Int64) : Prop := IC K aC v ∧ IM K aM ∧ TR aC v aM bM
theorem MW.same {b b' : Nat → Nat → Int64} (h : MW b) (e : b' 5 = b 5) : MW b' := fun w hw => by
  rw [e]
  exact h w hw
theorem TL_0 {t : Nat → Int32} {n : Int} (h : n = 0) : TL t n.toNat = [] := by
  subst h
  rfl
section TRS
variable {aC aC1 aM aM1 : Nat → Nat → Int32} {v v1 : Nat → Option Nat} {bM bM1 : Nat → Nat → Int64}
theorem TR.keepC (h : TR aC v aM bM) (p : (aC1 1 6 = aC 1 6 ∧ aC1 2 = aC 2) ∧ (KPM (mrC aC) (mrC aC1) ∧ LCK aC v aC1 v1) ∧ True) : TR aC1 v1 aM bM := ⟨h.1, by rw [p.1.1, p.1.2]; exact h.2.1, h.2.2.1, h.2.2.2.1.kp p.2.1.1 KPM.rf, h.2.2.2.2.kp p.2.1.2 LMK.rf⟩
theorem TR.keepM (h : TR aC v aM bM) (q : (aM1 0 2 = aM 0 2 ∧ aM1 1 = aM 1) ∧ (KPM (aM 16) (aM1 16) ∧ LMK aM aM1) ∧ True) (z : bM1 5 = bM 5) : TR aC v aM1 bM1 := ⟨h.1.same z, by rw [q.1.1, q.1.2]; exact h.2.1, by rw [q.1.1, q.1.2]; exact h.2.2.1, h.2.2.2.1.kp KPM.rf q.2.1.1, h.2.2.2.2.kp LCK.rf q.2.1.2⟩
theorem TR.put (h : TR aC v aM bM) (p : aC1 1 6 = aC 1 6 ∧ aC1 2 = aC 2) (q : aM1 0 2 = aM 0 2 ∧ aM1 1 = aM 1) (k : MK (mrC aC1) (aM1 16)) (d : LDR aC1 v1 aM1) (z : bM1 5 = bM 5) : TR aC1 v1 aM1 bM1 := ⟨h.1.same z, by rw [p.1, p.2, q.1, q.2]; exact h.2.1, by rw [q.1, q.2]; exact h.2.2.1, k, d⟩
theorem TR.zero (h : TR aC v aM bM) (p : (aC1 1 6).toInt = 0) (q : (aM1 0 2).toInt = 0) (k : MK (mrC aC1) (aM1 16)) (d : LDR aC1 v1 aM1) (z : bM1 5 = bM 5) : TR aC1 v1 aM1 bM1 := ⟨h.1.same z, by rw [TL_0 p, TL_0 q], by rw [TL_0 q]; exact (fun _ h9 => nomatch h9), k, d⟩
theorem gMl_gCl (x : Int64) (l : List Int32) : gMl x l 8 = gCl x l 8 := by
  show fT (fT (fT (fT (fT (fT (fT (fT l (byM x 56)) (byM x 48)) (byM x 40)) (byM x 32)) (byM x 24)) (byM x 16)) (byM x 8)) (byM x 0) = fT (fT (fT (fT (fT (fT (fT (fT l (byC x 56)) (byC x 48)) (byC x 40)) (byC x 32)) (byC x 24)) (byC x 16)) (byC x 8)) (byC x 0)
  rw [by_0, by_8, by_16, by_24, by_32, by_40, by_48, by_56]
theorem TR.fed (h : TR aC v aM bM) {p q r : Int64} (hC : TL (aC1 2) (aC1 1 6).toInt.toNat = gCl r (gCl q (gCl p (TL (aC 2) (aC 1 6).toInt.toNat) 8) 8) 8) (hM : TL (aM1 1) (aM1 0 2).toInt.toNat = gMl r (gMl q (gMl p (TL (aM 1) (aM 0 2).toInt.toNat) 8) 8) 8) (k : MK (mrC aC1) (aM1 16)) (d : LDR aC1 v1 aM1) (z : bM1 5 = bM 5) : TR aC1 v1 aM1 bM1 := ⟨h.1.same z, by rw [hC, hM, gMl_gCl, gMl_gCl, gMl_gCl, h.2.1], by rw [hM]; exact gMl_ok (gMl_ok (gMl_ok h.2.2.1 8) 8) 8, k, d⟩
theorem TR.hf (h : TR aC v aM bM) : ∀ j : Nat, (j : Int) < (aC 1 6).toInt → 0 ≤ (aC 2 j).toInt ∧ (aC 2 j).toInt ≤ 127 := fun j hj => by
  have h1 : aC 2 j ∈ TL (aC 2) (aC 1 6).toInt.toNat := List.mem_map.mpr ⟨j, List.mem_range.mpr (by omega), rfl⟩
  rw [h.2.1] at h1
  have h2 := h.2.2.1 _ h1
  unfold fP at h2
  omega
theorem TR.will (h : TR aC v aM bM) : wlF (aC 2) (aC 1 6).toInt.toNat 8 0 0 = wlF (aM 1) (aM 0 2).toInt.toNat 8 0 0 := by
  obtain ⟨e, g⟩ := TL_get h.2.1
  rw [← e]
  exact wlF_same g 8 0 0 (fun j hj => absurd hj (by omega))
theorem TR.zz (h : TR aC v aM bM) : (aC 1 6).toInt.toNat = (aM 0 2).toInt.toNat := (TL_get h.2.1).1
theorem TR.tt (h : TR aC v aM bM) : ∀ j, j < (aM 0 2).toInt.toNat → aM 1 j = aC 2 j := fun j hj => ((TL_get h.2.1).2 j (by rw [h.zz]; exact hj)).symm
theorem TR.lds (h : TR aC v aM bM) {x y : Int} {s s' : LDS} (h1 : LD (aC 2) (aC 1 6).toInt.toNat ld0 (x, s)) (h2 : LD (aC 2) (aM 0 2).toInt.toNat ld0 (y, s')) : x = y ∧ s = s' := by
  rw [h.zz] at h1
  have e := h1.one h2
  exact ⟨congrArg Prod.fst e, congrArg Prod.snd e⟩
theorem TR.lnd (h : TR aC v aM bM) {x y : Int} {P Q : LDS → Prop} (h1 : ∃ s : LDS, LD (aC 2) (aC 1 6).toInt.toNat ld0 (x, s) ∧ P s) (h2 : ∃ s : LDS, LD (aC 2) (aM 0 2).toInt.toNat ld0 (y, s) ∧ Q s) : x = y := by
  obtain ⟨s, h1, -⟩ := h1
  obtain ⟨s', h2, -⟩ := h2
  exact (h.lds h1 h2).1
theorem LDR.lnd (h : LDR aC v aM) (hT : TR aC v aM bM) {x y : Int32} (p : ¬ x.toInt = 0 → LCK aC v aC1 v1) (q : ¬ y.toInt = 0 → LMK aM aM1) (h1 : ∃ s : LDS, LD (aC 2) (aC 1 6).toInt.toNat ld0 (x.toInt, s) ∧ (x.toInt = 0 → ∃ D, v1 0 = some D ∧ (D = 22 ∨ D = 46) ∧ CLI D s.2.1 aC1 ∧ FIT D s.2.1 aC1)) (h2 : ∃ s : LDS, LD (aC 2) (aM 0 2).toInt.toNat ld0 (y.toInt, s) ∧ (y.toInt = 0 → LRL s.2.1 aM1)) : LDR aC1 v1 aM1 := by
  obtain ⟨s, g1, g2⟩ := h1
  obtain ⟨s', g3, g4⟩ := h2
  obtain ⟨e1, e2⟩ := hT.lds g1 g3
  subst e2
  by_cases z : x.toInt = 0
  · obtain ⟨D, d1, d2, d3⟩ := g2 z
    rw [z] at g1
    exact ⟨D, s.2.1, d1, d2, d3.1, g4 (by omega), g1.gv, d3.2⟩
  · exact h.kp (p z) (q (by omega))
end TRS
theorem TR.start {aC aM : Nat → Nat → Int32} {v : Nat → Option Nat} {bM : Nat → Nat → Int64} (h : MW bM) (p : aC 1 6 = 0) (q : aM 0 2 = 0) (k : MK (mrC aC) (aM 16)) (d : LDR aC v aM) : TR aC v aM bM := by
  have p1 : (aC 1 6).toInt = 0 := by rw [p]; rfl
  have q1 : (aM 0 2).toInt = 0 := by rw [q]; rfl
  exact ⟨h, by rw [TL_0 p1, TL_0 q1], by rw [TL_0 q1]; exact (fun _ h9 => nomatch h9), k, d⟩
