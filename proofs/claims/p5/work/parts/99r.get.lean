-- the tokens hang on the signs of the tape alone
theorem lxT_same {t t' : Nat → Int32} {z s : Nat} (hs : s < z) (h : ∀ j, j < z → t j = t' j) : lxT t z s = lxT t' z s := by
  unfold lxT
  rw [h s hs, lxe_same hs h]
theorem lxU_same {f : Int64 → Int32 → Int64} {t t' : Nat → Int32} {z s : Nat} (hs : s < z) (h : ∀ j, j < z → t j = t' j) : lxU f t z s = lxU f t' z s := by
  have hg := lxe_gt (t := t) hs
  have e := lxe_same hs h
  have e1 : ∀ g : Int64 → Int32 → Int64, lxv g t (lxe t z s - s) s 0 = lxv g t' (lxe t' z s - s) s 0 := fun g => by
    rw [← e]
    exact lxv_same _ _ _ (fun j hj => h j (by omega))
  unfold lxU
  rw [h s hs, e1 f, e1 fD]
theorem tok_same {t t' : Nat → Int32} {z i : Nat} (h : ∀ j, j < z → t j = t' j) (hi : ∀ j, j < i → lxP t z j < z) : lxK t z i = lxK t' z i ∧ lxP t z i = lxP t' z i ∧ (1 ≤ lxK t z i → lxV fM t z i = lxV fM t' z i) := by
  have e := lxP_same h i hi
  refine ⟨?_, e, fun hk => ?_⟩
  · unfold lxK
    rw [← e]
    by_cases hp : lxP t z i < z
    · rw [if_pos hp, if_pos hp]
      exact lxT_same hp h
    · rw [if_neg hp, if_neg hp]
  · have hp := lxK_lt hk
    unfold lxV
    rw [← e]
    exact lxU_same hp h
theorem tkW_same {t t' : Nat → Int32} {z i : Nat} (h : ∀ j, j < z → t j = t' j) (hi : ∀ j, j < i → lxP t z j < z) (w : Nat) : tkW t z i w ↔ tkW t' z i w := by
  obtain ⟨e1, -, e3⟩ := tok_same h hi
  constructor
  · intro ⟨p, q⟩
    exact ⟨by rw [← e1]; exact p, by rw [← e3 (by omega)]; exact q⟩
  · intro ⟨p, q⟩
    have p1 : lxK t z i = 1 := by rw [e1]; exact p
    exact ⟨p1, by rw [e3 (by omega)]; exact q⟩
theorem tkG_same {t t' : Nat → Int32} {z i : Nat} (h : ∀ j, j < z → t j = t' j) (hi : ∀ j, j < i → lxP t z j < z) (c : Int) : tkG t z i c = tkG t' z i c := by
  obtain ⟨e1, e2, e3⟩ := tok_same h hi
  have e : tkS t z i c ↔ tkS t' z i c := by
    constructor
    · intro ⟨p, q⟩
      exact ⟨by rw [← e1]; exact p, by rw [← e3 (by omega)]; exact q⟩
    · intro ⟨p, q⟩
      have p1 : lxK t z i = 3 := by rw [e1]; exact p
      exact ⟨p1, by rw [e3 (by omega)]; exact q⟩
  unfold tkG
  rw [e2]
  by_cases hk : tkS t z i c
  · rw [if_pos hk, if_pos (e.mp hk)]
  · rw [if_neg hk, if_neg (fun h9 => hk (e.mpr h9))]
theorem tkN_same {t t' : Nat → Int32} {z i : Nat} (h : ∀ j, j < z → t j = t' j) (hi : ∀ j, j < i → lxP t z j < z) (lo hi9 : Int) : tkN t z i lo hi9 = tkN t' z i lo hi9 := by
  obtain ⟨e1, e2, e3⟩ := tok_same h hi
  unfold tkN
  rw [e2]
  by_cases hk : lxK t z i = 2
  · have hk' : lxK t' z i = 2 := by rw [← e1]; exact hk
    rw [if_pos hk, if_pos hk', e3 (by omega)]
  · have hk' : ¬ lxK t' z i = 2 := by rw [← e1]; exact hk
    rw [if_neg hk, if_neg hk']
theorem tk_more {t : Nat → Int32} {z i : Nat} (hi : ∀ j, j < i → lxP t z j < z) (hk : ¬ lxK t z i = 0) : ∀ j, j < i + 1 → lxP t z j < z := fun j hj => by
  rcases Nat.lt_or_ge j i with h1 | h1
  · exact hi j h1
  · have e : j = i := by omega
    subst e
    exact lxK_lt (by omega)
theorem hlF_same {t t' : Nat → Int32} {z c : Nat} (h : ∀ j, j < z → t j = t' j) (hi : ∀ j, j < c → lxP t z j < z) (n : Nat) : hlF t z c n = hlF t' z c n := by
  obtain ⟨e1, e2, -⟩ := tok_same h hi
  have e := tkW_same h hi 19
  unfold hlF
  rw [e2]
  by_cases hk : tkW t z c 19
  · have k0 : ¬ lxK t z c = 0 := by
      have := hk.1
      omega
    rw [if_pos hk, if_pos (e.mp hk), tkN_same h (tk_more hi k0)]
  · rw [if_neg hk, if_neg (fun h9 => hk (e.mpr h9))]
theorem hlF_0 {t : Nat → Int32} {z c n : Nat} (h : hlF t z c n = 0) : ¬ lxK t z c = 0 ∧ tkN t z (c + 1) 0 99 = 0 := by
  unfold hlF at h
  split at h
  · rename_i hk
    have k1 := hk.1
    split at h
    · omega
    · exact ⟨by omega, h⟩
  · omega
theorem wlF_same {t t' : Nat → Int32} {z : Nat} (h : ∀ j, j < z → t j = t' j) : ∀ f c n : Nat, (∀ j, j < c → lxP t z j < z) → wlF t z f c n = wlF t' z f c n
  | 0, _, _, _ => rfl
  | f + 1, c, n, hi => by
    obtain ⟨e1, -, -⟩ := tok_same h hi
    by_cases hk : lxK t z c = 0
    · rw [wlF_end hk, wlF_end (by rw [← e1]; exact hk)]
    · have hk' : ¬ lxK t' z c = 0 := by rw [← e1]; exact hk
      have eh := hlF_same h hi n
      by_cases h0 : hlF t z c n = 0
      · have h0' : hlF t' z c n = 0 := by rw [← eh]; exact h0
        have i2 := tk_more (tk_more hi hk) (tkN_k (hlF_0 h0).2)
        have eg := tkG_same h i2 59
        by_cases hg : tkG t z (c + 2) 59 = 0
        · have hg' : tkG t' z (c + 2) 59 = 0 := by rw [← eg]; exact hg
          rw [wlF_go hk h0 hg, wlF_go hk' h0' hg']
          exact wlF_same h f (c + 3) (n + 1) (tk_more i2 (tkG_k hg))
        · have hg' : ¬ tkG t' z (c + 2) 59 = 0 := by rw [← eg]; exact hg
          rw [wlF_sg hk h0 hg, wlF_sg hk' h0' hg', eg]
      · have h0' : ¬ hlF t' z c n = 0 := by rw [← eh]; exact h0
        rw [wlF_bad hk h0, wlF_bad hk' h0', eh]
-- out of a row of the small machine: the contract over the large one
theorem f_get {l : Launch} {sh : List f_X} {T : List Cond} {mt : Nat → Option f_T} (hmt : ∀ m t, mt m = some t → f_mok l sh T mt t) {d m : Nat} {t : f_T} {as : List f_V} {h : f_H} {Q : Option f_V → f_H → Prop} (ht : mt m = some t) (w : f_call mt d m as h Q) : ∃ (r : Option f_V) (h' : f_H), Q r h' ∧ f_M l sh T t.1 t.2.1 t.2.2.1 t.2.2.2.1 (f_room d) as h r h' := by
  obtain ⟨z, hz, hq⟩ := w d (Nat.le_refl d)
  exact ⟨z.1, z.2, hq, f_ev_ok hmt d m t as h z ht hz⟩
-- what ties the two: the same signs on both tapes, all of them plain; the model's words are as told
def TR (aC aM : Nat → Nat → Int32) (bM : Nat → Nat → Int64) : Prop := MW bM ∧ TL (aC 2) (aC 1 6).toInt.toNat = TL (aM 1) (aM 0 2).toInt.toNat ∧ ∀ x ∈ TL (aM 1) (aM 0 2).toInt.toNat, fP x
-- both objects are between two calls
def IB (K : Nat) (aC : Nat → Nat → Int32) (v : Nat → Option Nat) (aM : Nat → Nat → Int32) (bM : Nat → Nat → Int64) : Prop := IC K aC v ∧ IM K aM ∧ TR aC aM bM
theorem MW.same {b b' : Nat → Nat → Int64} (h : MW b) (e : b' 5 = b 5) : MW b' := fun w hw => by
  rw [e]
  exact h w hw
theorem TL_0 {t : Nat → Int32} {n : Int} (h : n = 0) : TL t n.toNat = [] := by
  subst h
  rfl
section TRS
variable {aC aC1 aM aM1 : Nat → Nat → Int32} {bM bM1 : Nat → Nat → Int64}
theorem TR.keepC (h : TR aC aM bM) (p : aC1 1 6 = aC 1 6 ∧ aC1 2 = aC 2) : TR aC1 aM bM := ⟨h.1, by rw [p.1, p.2]; exact h.2.1, h.2.2⟩
theorem TR.keepM (h : TR aC aM bM) (p : aM1 0 2 = aM 0 2 ∧ aM1 1 = aM 1) (z : bM1 5 = bM 5) : TR aC aM1 bM1 := ⟨h.1.same z, by rw [p.1, p.2]; exact h.2.1, by rw [p.1, p.2]; exact h.2.2⟩
theorem TR.zero (h : TR aC aM bM) (p : (aC1 1 6).toInt = 0) (q : (aM1 0 2).toInt = 0) (z : bM1 5 = bM 5) : TR aC1 aM1 bM1 := ⟨h.1.same z, by rw [TL_0 p, TL_0 q], by rw [TL_0 q]; exact fun _ h9 => nomatch h9⟩
theorem gMl_gCl (x : Int64) (l : List Int32) : gMl x l 8 = gCl x l 8 := by
  show fT (fT (fT (fT (fT (fT (fT (fT l (byM x 56)) (byM x 48)) (byM x 40)) (byM x 32)) (byM x 24)) (byM x 16)) (byM x 8)) (byM x 0) = fT (fT (fT (fT (fT (fT (fT (fT l (byC x 56)) (byC x 48)) (byC x 40)) (byC x 32)) (byC x 24)) (byC x 16)) (byC x 8)) (byC x 0)
  rw [by_0, by_8, by_16, by_24, by_32, by_40, by_48, by_56]
theorem TR.fed (h : TR aC aM bM) {p q r : Int64} (hC : TL (aC1 2) (aC1 1 6).toInt.toNat = gCl r (gCl q (gCl p (TL (aC 2) (aC 1 6).toInt.toNat) 8) 8) 8) (hM : TL (aM1 1) (aM1 0 2).toInt.toNat = gMl r (gMl q (gMl p (TL (aM 1) (aM 0 2).toInt.toNat) 8) 8) 8) (z : bM1 5 = bM 5) : TR aC1 aM1 bM1 := ⟨h.1.same z, by rw [hC, hM, gMl_gCl, gMl_gCl, gMl_gCl, h.2.1], by rw [hM]; exact gMl_ok (gMl_ok (gMl_ok h.2.2 8) 8) 8⟩
theorem TR.hf (h : TR aC aM bM) : ∀ j : Nat, (j : Int) < (aC 1 6).toInt → 0 ≤ (aC 2 j).toInt ∧ (aC 2 j).toInt ≤ 127 := fun j hj => by
  have h1 : aC 2 j ∈ TL (aC 2) (aC 1 6).toInt.toNat := List.mem_map.mpr ⟨j, List.mem_range.mpr (by omega), rfl⟩
  rw [h.2.1] at h1
  have h2 := h.2.2 _ h1
  unfold fP at h2
  omega
theorem TR.will (h : TR aC aM bM) : wlF (aC 2) (aC 1 6).toInt.toNat 8 0 0 = wlF (aM 1) (aM 0 2).toInt.toNat 8 0 0 := by
  obtain ⟨e, g⟩ := TL_get h.2.1
  rw [← e]
  exact wlF_same g 8 0 0 (fun j hj => absurd hj (by omega))
end TRS
theorem TR.start {aC aM : Nat → Nat → Int32} {bM : Nat → Nat → Int64} (h : MW bM) (p : aC 1 6 = 0) (q : aM 0 2 = 0) : TR aC aM bM := by
  have p1 : (aC 1 6).toInt = 0 := by rw [p]; rfl
  have q1 : (aM 0 2).toInt = 0 := by rw [q]; rfl
  exact ⟨h, by rw [TL_0 p1, TL_0 q1], by rw [TL_0 q1]; exact fun _ h9 => nomatch h9⟩
