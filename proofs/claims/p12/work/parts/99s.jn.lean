-- the law's world: two worlds side by side; a call changes one of them
section JN
variable {D : va_G} {cl : List vw_C} {A : Nat → Prop} {w1 w2 w3 : va_W} {H H1 : Heap}
theorem f_P1 (h : va_P D cl (w1 ++ w2) H) : va_P D cl w1 H := fun k q hk => h k q (by rw [List.getElem?_append_left (List.getElem?_eq_some_iff.mp hk).1]; exact hk)
theorem f_P2 (h : va_P D cl (w1 ++ w2) H) : va_P D cl w2 H := fun k q hk => h (w1.length + k) q (by rw [List.getElem?_append_right (by omega), Nat.add_sub_cancel_left]; exact hk)
theorem f_D1 (h : va_D A (w1 ++ w2)) : va_D A w1 := ⟨fun i j p q hi hj e => h.1 i j p q (by rw [List.getElem?_append_left (List.getElem?_eq_some_iff.mp hi).1]; exact hi) (by rw [List.getElem?_append_left (List.getElem?_eq_some_iff.mp hj).1]; exact hj) e, fun k q hk => h.2 k q (by rw [List.getElem?_append_left (List.getElem?_eq_some_iff.mp hk).1]; exact hk)⟩
theorem f_D2 (h : va_D A (w1 ++ w2)) : va_D A w2 := ⟨fun i j p q hi hj e => by
  have g := h.1 (w1.length + i) (w1.length + j) p q (by rw [List.getElem?_append_right (by omega), Nat.add_sub_cancel_left]; exact hi) (by rw [List.getElem?_append_right (by omega), Nat.add_sub_cancel_left]; exact hj) e
  omega, fun k q hk => h.2 (w1.length + k) q (by rw [List.getElem?_append_right (by omega), Nat.add_sub_cancel_left]; exact hk)⟩
theorem f_Dx (h : va_D A (w1 ++ w2)) : ∀ (i j : Nat) (p q : Nat × va_E), w1[i]? = some p → w2[j]? = some q → p.1 ≠ q.1 := fun i j p q hi hj e => by
  have hl := (List.getElem?_eq_some_iff.mp hi).1
  have g := h.1 i (w1.length + j) p q (by rw [List.getElem?_append_left hl]; exact hi) (by rw [List.getElem?_append_right (by omega), Nat.add_sub_cancel_left]; exact hj) e
  omega
theorem f_sw (hP : va_P D cl (w1 ++ w2) H) (hD : va_D A (w1 ++ w2)) : va_P D cl (w2 ++ w1) H ∧ va_D A (w2 ++ w1) := ⟨(f_P2 hP).app (f_P1 hP), (f_D2 hD).app (f_D1 hD) (fun i j p q hi hj e => f_Dx hD j i q p hj hi e.symm)⟩
theorem f_join (hP : va_P D cl (w1 ++ w2) H) (hD : va_D A (w1 ++ w2)) (hk : ∀ q, q < H.size → ¬ va_A w1 H.size q → H1[q]? = H[q]?) (hP1 : va_P D cl w3 H1) (hD1 : va_D (va_A w1 H.size) w3) (hF : ∀ q, va_A w1 H.size q → A q) : va_P D cl (w3 ++ w2) H1 ∧ va_D A (w3 ++ w2) := by
  have out : ∀ (j : Nat) (q : Nat × va_E), w2[j]? = some q → q.1 < H.size ∧ ¬ va_A w1 H.size q.1 := fun j q hj => by
    have hl := (f_P2 hP j q hj).lt
    refine ⟨hl, fun h => ?_⟩
    rcases h with ⟨k, e, h⟩ | h
    · exact f_Dx hD k j (q.1, e) q h hj rfl
    · omega
  refine ⟨hP1.app (fun j q hj => (f_P2 hP j q hj).kept (hk q.1 (out j q hj).1 (out j q hj).2)), (hD1.weaken (fun _ q _ h => hF q.1 h)).app (f_D2 hD) (fun i j p q hi hj e => ?_)⟩
  exact (out j q hj).2 (by rw [← e]; exact hD1.2 i p hi)
end JN
