theorem w_iincU {code : Nat → Option f_I} {pc i n : Nat} {lo : List (Option f_V)} {st : List f_V} {h : f_H} {Q : Option f_V → f_H → Prop} {x d : Int32} {lo' : Int32 → List (Option f_V)} (hc : code pc = some (i_iinc i d n)) (hx : lo[i]? = some (some (.inl x))) (hl : ∀ z, f_s1 lo i (.inl z) = lo' z) (w : ∀ z : Int32, True → f_wp code (n, lo' z, st, h) Q) : f_wp code (pc, lo, st, h) Q := wp_s hc (by unfold i_iinc; dsimp only; rw [hx]; dsimp only; rw [hl]) (w _ trivial)
theorem ld37 {x y : Int64} (h : 0 < x.toInt) (hy : y = x / 37) : 0 ≤ y.toInt ∧ y.toInt < x.toInt := by
  obtain ⟨e, hk⟩ := tl_lN (Int.le_of_lt h)
  have hp : 0 < x.toInt.toNat := by omega
  have hb : x.toInt = (x.toInt.toNat : Int) := by omega
  have e3 : y = lN (x.toInt.toNat / 37) := by
    rw [hy, ← pk_lDiv (b := 37) hk (by omega) (by omega), ← e]; rfl
  have h4 : x.toInt.toNat / 37 < x.toInt.toNat := Nat.div_lt_self hp (by decide)
  rw [e3, pk_lT (by omega)]
  omega
set_option maxRecDepth 4000 in
theorem s_lettersOf {K : Nat} (a : Nat → Nat → Int32) (b : Nat → Nat → Int64) (L_v : Int64)  : f_call mtM 1 23 [.inr (.inl L_v)] (mH a b) (fun v9 h' => h' = mH a b ∧ ∃ x : Int32, v9 = some (.inl x) ∧ True) := by
  refine f_call_of (d0 := 0) rfl (Nat.le_of_ble_eq_true rfl) (fun d hd => ?_)
  show f_wp _ (0, [some (.inr (.inl L_v)), none, none, none, none], [], mH a b) _
  have l0 : (0 : Int32).toInt = 0 := rfl
  have l1 : (1 : Int32).toInt = 1 := rfl
  have z0 : (0 : Int64).toInt = 0 := rfl
  refine w_const rfl ?_
  refine w_istore (lo' := [some (.inr (.inl L_v)), none, some (.inl 0), none, none]) rfl rfl ?_
  refine w_lload rfl rfl ?_
  refine w_lstore (lo' := [some (.inr (.inl L_v)), none, some (.inl 0), some (.inr (.inl L_v)), none]) rfl rfl ?_
  have loop4 : ∀ (ms9 : Nat) (n : Int32) (lf : Int64) , (lf.toInt).toNat = ms9 →  f_wp (f_code (t_X13_lettersOf (f_ev mtM d))) (4, [some (.inr (.inl L_v)), none, some (.inl n), some (.inr (.inl lf)), none], [], mH a b) (fun v9 h' => h' = mH a b ∧ ∃ x : Int32, v9 = some (.inl x) ∧ True) := by
    intro ms9
    induction ms9 using Nat.strongRecOn with
    | _ ms4 ih4 =>
      intro n lf  hm4 
      refine w_lload rfl rfl ?_
      refine w_const rfl ?_
      refine w_lcmpE rfl (fun x1 tx1 => ?_)
      have c9 := cmp_ti tx1
      refine w_if_le rfl (fun c2 => ?_) (fun c2 => ?_)
      · skip
        refine w_iload rfl rfl ?_
        exact wp_iret (z := false) rfl (fun h9 => by cases h9) ⟨rfl, ⟨_, rfl, trivial⟩⟩
      · skip
        refine w_iincU (lo' := fun z9 => [some (.inr (.inl L_v)), none, some (.inl z9), some (.inr (.inl lf)), none]) rfl rfl (fun _ => rfl) (fun x3 tx3 => ?_)
        refine w_lload rfl rfl ?_
        refine w_const rfl ?_
        refine w_lldE rfl (by decide) (fun y4 ty4 => ?_)
        have d9 := ld37 (by omega) ty4
        refine w_lstore (lo' := [some (.inr (.inl L_v)), none, some (.inl x3), some (.inr (.inl y4)), none]) rfl rfl ?_
        refine w_goto rfl ?_
        exact ih4 (y4.toInt).toNat (by omega) x3 y4 rfl  
  exact loop4 _ 0 L_v rfl  
