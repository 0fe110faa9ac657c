-- what a LAND without a fault holds
def RG (n : Nat) (w : Nat → Int) : Prop := (0 ≤ w 0 ∧ w 0 ≤ 3) ∧ (1 ≤ w 1 ∧ w 1 ≤ 99) ∧ (0 ≤ w 2 ∧ w 2 < w 1) ∧ (0 ≤ w 3 ∧ w 3 ≤ 99) ∧ (∀ k, k < 4 → 0 ≤ w (4 + k) ∧ w (4 + k) ≤ 99) ∧ ((w 8 = -1 ∧ w 9 = 0) ∨ (1 ≤ w 8 ∧ w 8 ≤ 999 ∧ w 2 ≤ w 9 ∧ w 9 ≤ w 1)) ∧ ((w 10 = -1 ∧ w 11 = 0) ∨ (0 ≤ w 10 ∧ w 10 ≤ 999 ∧ w 2 ≤ w 11 ∧ w 11 ≤ w 1)) ∧ (-1 ≤ w 12 ∧ w 12 < (n : Int))
def GV (V : Nat → Int) : Prop := (0 ≤ V 0 ∧ V 0 ≤ 6) ∧ (0 ≤ V 1 ∧ V 1 ≤ 4) ∧ (0 ≤ V 2 ∧ V 2 ≤ 9) ∧ (0 ≤ V 3 ∧ V 3 ≤ 10) ∧ (0 ≤ V 4 ∧ V 4 ≤ 99) ∧ (∀ i : Nat, (i : Int) < V 0 → RG i (fun w => V (7 + 14 * i + w))) ∧ (∀ k : Nat, (k : Int) < V 1 → (0 ≤ V (91 + 2 * k) ∧ V (91 + 2 * k) ≤ 99) ∧ (1 ≤ V (92 + 2 * k) ∧ V (92 + 2 * k) ≤ 99))
theorem RG.same {n : Nat} {w w' : Nat → Int} (h : RG n w) (e : ∀ j, j < 13 → w' j = w j) : RG n w' := by
  unfold RG at h ⊢
  rw [e 0 (by decide), e 1 (by decide), e 2 (by decide), e 3 (by decide), e 8 (by decide), e 9 (by decide), e 10 (by decide), e 11 (by decide), e 12 (by decide)]
  obtain ⟨h1, h2, h3, h4, h5, h6⟩ := h
  exact ⟨h1, h2, h3, h4, fun k hk => by rw [e (4 + k) (by omega)]; exact h5 k hk, h6⟩
theorem fnd_hi (M : Nat → Int64) (v : Int64) : ∀ n : Nat, fnd M v n < n
  | 0 => by show (-1 : Int) < 0; decide
  | n + 1 => by
    rw [fnd_s]
    have h := fnd_hi M v n
    split
    · omega
    · split <;> omega
theorem op_z {t : Nat → Int32} {z w d : Nat} {lo0 lo hi : Int} (h : fz (opE t z w lo0 lo hi d) = 0) (hw : tkW t z d w) : (lo0 ≤ nvT t z (d + 1) ∧ nvT t z (d + 1) ≤ 999) ∧ (lo ≤ nvT t z (d + 3) ∧ nvT t z (d + 3) ≤ hi) := by
  unfold opE at h
  rw [if_pos hw, fz3] at h
  have h1 := eE_z h
  have h2 := eE_z h1.1
  exact ⟨(tkN_v h2.1).2, (tkN_v h1.2).2⟩
theorem wL_z {t : Nat → Int32} {z c : Nat} : ∀ m : Nat, wL t z c m = 0 → ∀ k, k < m → 0 ≤ nvT t z (c + 1 + k) ∧ nvT t z (c + 1 + k) ≤ 99
  | 0, _, k, hk => absurd hk (Nat.not_lt_zero k)
  | m + 1, h, k, hk => by
    have h1 := eE_z (show eE (wL t z c m) (tkN t z (c + 1 + m) 0 99) = 0 from h)
    rcases Nat.lt_or_ge k m with g | g
    · exact wL_z m h1.1 k g
    · have e : k = m := by omega
      subst e
      exact (tkN_v h1.2).2
theorem kdF_3 {t : Nat → Int32} {z c : Nat} : kdF t z c ≤ 3 := by
  unfold kdF
  repeat' split
  all_goals omega
theorem rv_gv {t : Nat → Int32} {z n c : Nat} {M M' : Nat → Int64} (hn : ¬ n = 6) (h : rvE t z M n c = 0) : RG n (rvV t z M' n c) := by
  rw [rvE_c hn] at h
  obtain ⟨h1, h⟩ := eE_z h
  obtain ⟨h2, h⟩ := eE_z h
  obtain ⟨h3, h⟩ := eE_z h
  obtain ⟨h4, h⟩ := eE_z h
  obtain ⟨h5, h⟩ := eE_z h
  obtain ⟨h6, h7⟩ := eE_z h
  have k1 : ¬ kdF t z (c + 2) < 0 := fun q => by
    rw [kdE_x q] at h2
    exact flt_p (by decide) h2
  have k2 := kdF_3 (t := t) (z := z) (c := c + 2)
  obtain ⟨g1, g⟩ := eE_z h3
  obtain ⟨g2, g3⟩ := eE_z g
  have f1 : 1 ≤ nvT t z (c + 4) ∧ nvT t z (c + 4) ≤ 99 := (tkN_v (eE_z g1).2).2
  have f2 : 0 ≤ nvT t z (c + 6) ∧ nvT t z (c + 6) ≤ nvT t z (c + 4) - 1 := (tkN_v (eE_z g2).2).2
  have f3 : 0 ≤ nvT t z (c + 8) ∧ nvT t z (c + 8) ≤ 99 := (tkN_v (eE_z g3).2).2
  have f4 := wL_z 4 h4
  refine ⟨⟨by show 0 ≤ kdF t z (c + 2); omega, k2⟩, f1, ⟨f2.1, by show nvT t z (c + 6) < nvT t z (c + 4); omega⟩, f3, fun k hk => ?_, ?_, ?_, ?_⟩
  · match k, hk with
    | 0, _ => exact f4 0 (by decide)
    | 1, _ => exact f4 1 (by decide)
    | 2, _ => exact f4 2 (by decide)
    | 3, _ => exact f4 3 (by decide)
    | k + 4, h => exact absurd h (by omega)
  · by_cases hw : tkW t z (c + 14) 5
    · right
      have o := op_z h5 hw
      have e8 : rvV t z M' n c 8 = nvT t z (c + 15) := if_pos hw
      have e9 : rvV t z M' n c 9 = nvT t z (c + 17) := if_pos hw
      rw [e8, e9]
      exact ⟨o.1.1, o.1.2, o.2.1, o.2.2⟩
    · left
      exact ⟨if_neg hw, if_neg hw⟩
  · by_cases hw : tkW t z (opC t z 5 (c + 14)) 6
    · right
      have o := op_z h6 hw
      have e8 : rvV t z M' n c 10 = nvT t z (opC t z 5 (c + 14) + 1) := if_pos hw
      have e9 : rvV t z M' n c 11 = nvT t z (opC t z 5 (c + 14) + 3) := if_pos hw
      rw [e8, e9]
      exact ⟨o.1.1, o.1.2, o.2.1, o.2.2⟩
    · left
      exact ⟨if_neg hw, if_neg hw⟩
  · by_cases hw : tkW t z (opC t z 6 (opC t z 5 (c + 14))) 8
    · have e : rvV t z M' n c 12 = fnd M' (lxV fM t z (opC t z 6 (opC t z 5 (c + 14)) + 1)) n := if_pos hw
      rw [e]
      exact ⟨fnd_lo _ _ _, fnd_hi _ _ _⟩
    · have e : rvV t z M' n c 12 = -1 := if_neg hw
      rw [e]
      omega
section GVS
variable {t : Nat → Int32} {z c : Nat} {V : Nat → Int} {s : LDS}
theorem GV.riv (h : GV s.2.1) (hE : rvE t z s.2.2.1 (s.2.1 0).toNat s.1 = 0) : GV (rvL t z s) := by
  obtain ⟨h1, h2, h3, h4, h5, h6, h7⟩ := h
  have hn : ¬ (s.2.1 0).toNat = 6 := fun q => by
    unfold rvE at hE
    rw [if_pos q] at hE
    exact flt_p (by decide) hE
  have g := rv_gv (M' := upN s.2.2.1 (s.2.1 0).toNat (lxV fM t z (s.1 + 1))) hn hE
  have r0 : rvL t z s 0 = s.2.1 0 + 1 := if_pos rfl
  have rj : ∀ j, j ≠ 0 → (j < 7 + 14 * (s.2.1 0).toNat ∨ 7 + 14 * (s.2.1 0).toNat + 13 ≤ j) → rvL t z s j = s.2.1 j := fun j j0 jn => by
    unfold rvL
    rw [if_neg j0, if_neg (by omega)]
  have rn : ∀ w, w < 13 → rvL t z s (7 + 14 * (s.2.1 0).toNat + w) = rvV t z (upN s.2.2.1 (s.2.1 0).toNat (lxV fM t z (s.1 + 1))) (s.2.1 0).toNat s.1 w := fun w hw => by
    unfold rvL
    rw [if_neg (by omega), if_pos (by omega), show 7 + 14 * (s.2.1 0).toNat + w - (7 + 14 * (s.2.1 0).toNat) = w from by omega]
  refine ⟨by rw [r0]; omega, by rw [rj 1 (by decide) (by omega)]; exact h2, by rw [rj 2 (by decide) (by omega)]; exact h3, by rw [rj 3 (by decide) (by omega)]; exact h4, by rw [rj 4 (by decide) (by omega)]; exact h5, fun i hi => ?_, fun k hk => ?_⟩
  · rw [r0] at hi
    rcases (by omega : (i : Int) < s.2.1 0 ∨ i = (s.2.1 0).toNat) with q | q
    · exact (h6 i q).same (fun j hj => rj _ (by omega) (by omega))
    · subst q
      exact g.same (fun j hj => rn j hj)
  · rw [rj 1 (by decide) (by omega)] at hk
    rw [rj (91 + 2 * k) (by omega) (by omega), rj (92 + 2 * k) (by omega) (by omega)]
    exact h7 k hk
theorem GV.ran (h : GV V) (hE : rgE t z V c = 0) : GV (rgL t z V c) := by
  obtain ⟨h1, h2, h3, h4, h5, h6, h7⟩ := h
  have hn : ¬ V 1 = 4 := fun q => by
    unfold rgE at hE
    rw [if_pos q] at hE
    exact flt_p (by decide) hE
  unfold rgE at hE
  rw [if_neg hn, fz4] at hE
  obtain ⟨e1, e2⟩ := eE_z hE
  obtain ⟨e3, -⟩ := eE_z e1
  obtain ⟨e5, -⟩ := eE_z e3
  have f1 := (tkN_v e5).2
  have f2 := (tkN_v e2).2
  have r1 : rgL t z V c 1 = V 1 + 1 := by unfold rgL upI; exact if_pos rfl
  have ru : ∀ j, j ≠ 1 → j ≠ 91 + 2 * (V 1).toNat → j ≠ 92 + 2 * (V 1).toNat → rgL t z V c j = V j := fun j q1 q2 q3 => by
    unfold rgL upI
    rw [if_neg q1, if_neg q3, if_neg q2]
  have ra : rgL t z V c (91 + 2 * (V 1).toNat) = nvT t z (c + 1) := by
    unfold rgL upI
    rw [if_neg (by omega), if_neg (by omega), if_pos rfl]
  have rb : rgL t z V c (92 + 2 * (V 1).toNat) = nvT t z (c + 3) := by
    unfold rgL upI
    rw [if_neg (by omega), if_pos rfl]
  have r0 := ru 0 (by decide) (by omega) (by omega)
  refine ⟨by rw [r0]; exact h1, by rw [r1]; omega, by rw [ru 2 (by decide) (by omega) (by omega)]; exact h3, by rw [ru 3 (by decide) (by omega) (by omega)]; exact h4, by rw [ru 4 (by decide) (by omega) (by omega)]; exact h5, fun i hi => ?_, fun k hk => ?_⟩
  · rw [r0] at hi
    exact (h6 i hi).same (fun j hj => ru _ (by omega) (by omega) (by omega))
  · rw [r1] at hk
    rcases (by omega : (k : Int) < V 1 ∨ k = (V 1).toNat) with q | q
    · rw [ru (91 + 2 * k) (by omega) (by omega) (by omega), ru (92 + 2 * k) (by omega) (by omega) (by omega)]
      exact h7 k q
    · subst q
      rw [ra, rb]
      exact ⟨f1, f2⟩
theorem GV.put (h : GV V) {k : Nat} {x : Int} (hk : (k = 2 ∧ 0 ≤ x ∧ x ≤ 9) ∨ (k = 3 ∧ 0 ≤ x ∧ x ≤ 10) ∨ (k = 4 ∧ 0 ≤ x ∧ x ≤ 99)) : GV (upI V k x) := by
  obtain ⟨h1, h2, h3, h4, h5, h6, h7⟩ := h
  have ru : ∀ j, j ≠ k → upI V k x j = V j := fun j q => if_neg q
  have rk : upI V k x k = x := if_pos rfl
  refine ⟨by rw [ru 0 (by omega)]; exact h1, by rw [ru 1 (by omega)]; exact h2, ?_, ?_, ?_, fun i hi => ?_, fun j hj => ?_⟩
  · rcases hk with ⟨q, q1⟩ | ⟨q, q1⟩ | ⟨q, q1⟩
    · subst q
      rw [rk]
      exact q1
    · rw [ru 2 (by omega)]
      exact h3
    · rw [ru 2 (by omega)]
      exact h3
  · rcases hk with ⟨q, q1⟩ | ⟨q, q1⟩ | ⟨q, q1⟩
    · rw [ru 3 (by omega)]
      exact h4
    · subst q
      rw [rk]
      exact q1
    · rw [ru 3 (by omega)]
      exact h4
  · rcases hk with ⟨q, q1⟩ | ⟨q, q1⟩ | ⟨q, q1⟩
    · rw [ru 4 (by omega)]
      exact h5
    · rw [ru 4 (by omega)]
      exact h5
    · subst q
      rw [rk]
      exact q1
  · rw [ru 0 (by omega)] at hi
    exact (h6 i hi).same (fun w hw => ru _ (by omega))
  · rw [ru 1 (by omega)] at hj
    rw [ru (91 + 2 * j) (by omega), ru (92 + 2 * j) (by omega)]
    exact h7 j hj
theorem GV.ln {f : Nat} (h : GV s.2.1) (hE : (lnF t z f s).1 = 0) : GV (lnF t z f s).2.2.1 := by
  unfold lnF at hE ⊢
  by_cases q1 : tkW t z s.1 0
  · rw [if_pos q1] at hE ⊢
    exact h.riv hE
  · rw [if_neg q1] at hE ⊢
    by_cases q2 : tkW t z s.1 9
    · rw [if_pos q2] at hE ⊢
      exact h.ran hE
    · rw [if_neg q2] at hE ⊢
      by_cases q3 : onW t z s.1 < 0
      · rw [if_pos q3] at hE ⊢
        exact h
      · rw [if_neg q3] at hE ⊢
        by_cases q4 : s.2.2.2 (onW t z s.1).toNat = true
        · rw [if_pos q4] at hE ⊢
          exact h
        · rw [if_neg q4] at hE ⊢
          by_cases q5 : onW t z s.1 = 0
          · rw [if_pos q5] at hE ⊢
            exact h.put (Or.inl ⟨rfl, (tkN_v hE).2⟩)
          · rw [if_neg q5] at hE ⊢
            by_cases q6 : onW t z s.1 = 1
            · rw [if_pos q6] at hE ⊢
              have hE : fz [tkN t z (s.1 + 1) 0 10, xW t z (s.1 + 2) 13, tkN t z (s.1 + 3) 0 99] = 0 := hE
              rw [fz3] at hE
              have e1 := eE_z hE
              exact (h.put (Or.inr (Or.inl ⟨rfl, (tkN_v (eE_z e1.1).1).2⟩))).put (Or.inr (Or.inr ⟨rfl, (tkN_v e1.2).2⟩))
            · rw [if_neg q6] at hE ⊢
              exact h
end GVS
theorem GV.ld {t : Nat → Int32} {z : Nat} : ∀ (f : Nat) (s : LDS), GV s.2.1 → (ldF t z f s).1 = 0 → GV (ldF t z f s).2.2.1
  | 0, s, h, _ => h
  | f + 1, s, h, hE => by
    unfold ldF at hE ⊢
    by_cases q1 : lxK t z s.1 = 0
    · rw [if_pos q1] at hE ⊢
      exact h
    · rw [if_neg q1] at hE ⊢
      by_cases q2 : (lnF t z f s).1 = 0
      · rw [if_pos q2] at hE ⊢
        by_cases q3 : tkG t z (lnF t z f s).2.1 59 = 0
        · rw [if_pos q3] at hE ⊢
          exact GV.ld f _ (h.ln q2) hE
        · rw [if_neg q3] at hE ⊢
          exact absurd hE q3
      · rw [if_neg q2] at hE ⊢
        exact absurd hE q2
theorem GV.zero : GV (fun _ => 0) := ⟨by decide, by decide, by decide, by decide, by decide, fun i hi => absurd hi (by show ¬ (i : Int) < 0; omega), fun k hk => absurd hk (by show ¬ (k : Int) < 0; omega)⟩
theorem LD.gv {t : Nat → Int32} {z : Nat} {s : LDS} (h : LD t z ld0 (0, s)) : GV s.2.1 := by
  obtain ⟨f, hf⟩ := h
  have e := hf f (Nat.le_refl _)
  have g := GV.ld (t := t) (z := z) f ld0 GV.zero (by rw [e])
  rw [e] at g
  exact g
