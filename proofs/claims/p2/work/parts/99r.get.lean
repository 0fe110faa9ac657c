-- out of a row of the small machine: the contract over the large one
theorem f_get {l : Launch} {sh : List f_X} {T : List Cond} {mt : Nat → Option f_T} (hmt : ∀ m t, mt m = some t → f_mok l sh T mt t) {d m : Nat} {t : f_T} {as : List f_V} {h : f_H} {Q : Option f_V → f_H → Prop} (ht : mt m = some t) (w : f_call mt d m as h Q) : ∃ (r : Option f_V) (h' : f_H), Q r h' ∧ f_M l sh T t.1 t.2.1 t.2.2.1 t.2.2.2.1 (f_room d) as h r h' := by
  obtain ⟨z, hz, hq⟩ := w d (Nat.le_refl d)
  exact ⟨z.1, z.2, hq, f_ev_ok hmt d m t as h z ht hz⟩
-- both objects are between two calls, and their tapes are as long
def IB (K : Nat) (aC : Nat → Nat → Int32) (v : Nat → Option Nat) (aM : Nat → Nat → Int32) : Prop := IC K aC v ∧ IM K aM ∧ (aC 1 6).toInt = (aM 0 2).toInt
theorem feed_same {aC aC' aM aM' : Nat → Nat → Int32} {x y : Int32} {p q r : Int64} (h : (aC 1 6).toInt = (aM 0 2).toInt) (hC : x = aC' 1 6 ∧ (aC' 1 6).toInt = gC r (gC q (gC p (aC 1 6).toInt 8) 8) 8) (hM : y = aM' 0 2 ∧ (aM' 0 2).toInt = gM r (gM q (gM p (aM 0 2).toInt 8) 8) 8) : x = y ∧ (aC' 1 6).toInt = (aM' 0 2).toInt := by
  have e : (aC' 1 6).toInt = (aM' 0 2).toInt := by
    rw [hC.2, hM.2, gM_gC, gM_gC, gM_gC, h]
  exact ⟨by rw [hC.1, hM.1]; exact Int32.toInt_inj.mp e, e⟩
