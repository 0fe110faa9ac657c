section M3
variable {code : Nat → Option f_I} {pc : Nat} {lo : List (Option f_V)} {r : List f_V} {h : f_H} {Q : Option f_V → f_H → Prop}
theorem w_tab {x : Int32} {lo0 : Int} {ts : List Nat} {d : Nat} (hc : code pc = some (i_tab lo0 ts d)) (h1 : x.toInt < lo0 ∨ lo0 + ts.length ≤ x.toInt → f_wp code (d, lo, r, h) Q) (h2 : ∀ (k t : Nat), ts[k]? = some t → x.toInt = lo0 + k → f_wp code (t, lo, r, h) Q) : f_wp code (pc, lo, .inl x :: r, h) Q := by
  by_cases hh : x.toInt < lo0 ∨ lo0 + ts.length ≤ x.toInt
  · exact wp_s hc (if_pos hh) (h1 hh)
  · have hlt : (x.toInt - lo0).toNat < ts.length := by omega
    have ht := List.getElem?_eq_getElem hlt
    refine wp_s hc ?_ (h2 _ _ ht (by omega))
    unfold i_tab
    dsimp only
    rw [if_neg hh, ht]
end M3
