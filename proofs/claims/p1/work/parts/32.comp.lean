def pw_Net_clear : List Cond := .code yX5_clear cX5_clear 3 none :: ([.fieldLink RX5 18 "RiverVows$Net" "land" "LRiverVows$Land;", .fieldLink RX5 9 "RiverVows$Net" "husband" "[I", .fieldLink RX5 15 "RiverVows$Net" "whole" "[I"] ++ wsX50)
set_option maxHeartbeats 4000000 in
set_option maxRecDepth 100000 in
theorem c_Net_clear (l : Launch) (D : va_G) (k : Nat → ClassId) (sz : Nat) (h0 : Nat) (n1 : Nat) (n2 : Nat) (la : Nat) (v : Value) (f : Nat → Int32) (g : Nat → Int32)  : pMv l yX5_clear pw_Net_clear ({ frames := 0, cells := 0, slots := 0, locals := 0 }) D k [.ref h0, .ref la] [(h0, .inr (4, [.ref n1, .ref n2, v])), (n1, .inl (k 1, 6, .inl f)), (n2, .inl (k 1, 6, .inl g))] sz (S := (Nat → Int32) × (Nat → Int32)) (fun u => True) (fun u => [(h0, .inr (4, [.ref n1, .ref n2, .ref la])), (n1, .inl (k 1, 6, .inl u.1)), (n2, .inl (k 1, 6, .inl u.2))]) 0 0 := by
  refine p_ofv (cc := cX5_clear) (maxL := 3) (by decide) rfl (Nat.le_of_ble_eq_true rfl) ?_
  intro p e s m below meth c hx hb hml hown hts hin hK hN A hA hP hD hS Q hret ls hl
  have hl : lv_has ls 3 [(0, .ref h0), (1, .ref la)] := hl
  have lf18 := hts (.fieldLink RX5 18 "RiverVows$Net" "land" "LRiverVows$Land;") (by decide +kernel)
  have inX5 : ∀ w ∈ wsX50, w ∈ pw_Net_clear := by decide +kernel
  have lf9 := hts (.fieldLink RX5 9 "RiverVows$Net" "husband" "[I") (by decide +kernel)
  have lf15 := hts (.fieldLink RX5 15 "RiverVows$Net" "whole" "[I") (by decide +kernel)
  refine lv_aload_n hx hb dX5_clear_0 rfl (lv_at hl 0 rfl) ?_
  refine lv_aload_n hx hb dX5_clear_1 rfl (lv_at hl 1 rfl) ?_
  refine va_put (ci := 4) (v := .ref la) (ty := (.object "RiverVows$Land")) (C := RX5) (T := TX5) (N := 3) hx hb hts inX5 tyX5 tyX5_ok nmX5 hown hK hP hD hS 0 rfl rfl 2 (by decide) lf18 (fun _ h9 => h9) rfl (by decide +kernel) rfl rfl (Nat.le_of_ble_eq_true rfl) dX5_clear_2 (fun H locs hP hD hS => ?_)
  have hP : va_P D vwCl [(h0, .inr (4, [.ref n1, .ref n2, .ref la])), (n1, .inl (k 1, 6, .inl f)), (n2, .inl (k 1, 6, .inl g))] H := hP
  have hD : va_D A [(h0, .inr (4, [.ref n1, .ref n2, .ref la])), (n1, .inl (k 1, 6, .inl f)), (n2, .inl (k 1, 6, .inl g))] := hD
  refine lv_iconst (v := 0) hx hb dX5_clear_5 (by decide) ?_
  refine lv_istore_n (lv' := [(2, .int 0), (0, .ref h0), (1, .ref la)]) hx hb dX5_clear_6 rfl hl (by decide) rfl (fun ls hl => ?_)
  refine lv_iload_n hx hb dX5_clear_7 rfl (lv_at hl 0 rfl) ?_
  refine lv_bipush (v := 6) hx hb dX5_clear_8 (by decide) ?_
  refine lv_icmp_ge (tgt := 35) hx hb dX5_clear_10 (by decide) (fun h9 => absurd h9 (by decide)) (fun cx1 => ?_)
  refine lv_aload_n hx hb dX5_clear_13 rfl (lv_at hl 1 rfl) ?_
  refine va_get (ci := 4) (v := .ref n1) (C := RX5) (T := TX5) (N := 3) hx hb hts inX5 hown hK hP 0 rfl rfl 0 (by decide) lf9 (fun _ h9 => h9) rfl dX5_clear_14 ?_
  refine lv_iload_n hx hb dX5_clear_17 rfl (lv_at hl 0 rfl) ?_
  refine lv_iconst (v := (-1)) hx hb dX5_clear_18 (by decide) ?_
  refine va_iast hx hb hK hP hD hS 1 1 rfl rfl (show ¬ (_ ∨ _) by decide) dX5_clear_19 (fun H locs hP hD hS => ?_)
  obtain ⟨fx2, hP, hD⟩ : ∃ fx2, va_P D vwCl [(h0, .inr (4, [.ref n1, .ref n2, .ref la])), (n1, .inl (k 1, 6, .inl fx2)), (n2, .inl (k 1, 6, .inl g))] H ∧ va_D A [(h0, .inr (4, [.ref n1, .ref n2, .ref la])), (n1, .inl (k 1, 6, .inl fx2)), (n2, .inl (k 1, 6, .inl g))] := ⟨_, hP, hD⟩
  refine lv_aload_n hx hb dX5_clear_20 rfl (lv_at hl 1 rfl) ?_
  refine va_get (ci := 4) (v := .ref n2) (C := RX5) (T := TX5) (N := 3) hx hb hts inX5 hown hK hP 0 rfl rfl 1 (by decide) lf15 (fun _ h9 => h9) rfl dX5_clear_21 ?_
  refine lv_iload_n hx hb dX5_clear_24 rfl (lv_at hl 0 rfl) ?_
  refine lv_iconst (v := 1) hx hb dX5_clear_25 (by decide) ?_
  refine lv_iload_n hx hb dX5_clear_26 rfl (lv_at hl 0 rfl) ?_
  refine lv_ishl hx hb dX5_clear_27 ?_
  refine p_topI (v := 1) (by decide) ?_
  refine va_iast hx hb hK hP hD hS 2 1 rfl rfl (show ¬ (_ ∨ _) by decide) dX5_clear_28 (fun H locs hP hD hS => ?_)
  obtain ⟨fx3, hP, hD⟩ : ∃ fx3, va_P D vwCl [(h0, .inr (4, [.ref n1, .ref n2, .ref la])), (n1, .inl (k 1, 6, .inl fx2)), (n2, .inl (k 1, 6, .inl fx3))] H ∧ va_D A [(h0, .inr (4, [.ref n1, .ref n2, .ref la])), (n1, .inl (k 1, 6, .inl fx2)), (n2, .inl (k 1, 6, .inl fx3))] := ⟨_, hP, hD⟩
  refine lv_iinc (v := 1) (lv' := [(2, .int 1), (0, .ref h0), (1, .ref la)]) hx hb dX5_clear_29 hl (k := 0) rfl (by decide) (by decide) rfl (fun ls hl => ?_)
  refine lv_goto (tgt := 7) hx hb dX5_clear_32 (by decide) ?_
  refine lv_iload_n hx hb dX5_clear_7 rfl (lv_at hl 0 rfl) ?_
  refine lv_bipush (v := 6) hx hb dX5_clear_8 (by decide) ?_
  refine lv_icmp_ge (tgt := 35) hx hb dX5_clear_10 (by decide) (fun h9 => absurd h9 (by decide)) (fun cx4 => ?_)
  refine lv_aload_n hx hb dX5_clear_13 rfl (lv_at hl 1 rfl) ?_
  refine va_get (ci := 4) (v := .ref n1) (C := RX5) (T := TX5) (N := 3) hx hb hts inX5 hown hK hP 0 rfl rfl 0 (by decide) lf9 (fun _ h9 => h9) rfl dX5_clear_14 ?_
  refine lv_iload_n hx hb dX5_clear_17 rfl (lv_at hl 0 rfl) ?_
  refine lv_iconst (v := (-1)) hx hb dX5_clear_18 (by decide) ?_
  refine va_iast hx hb hK hP hD hS 1 1 rfl rfl (show ¬ (_ ∨ _) by decide) dX5_clear_19 (fun H locs hP hD hS => ?_)
  obtain ⟨fx5, hP, hD⟩ : ∃ fx5, va_P D vwCl [(h0, .inr (4, [.ref n1, .ref n2, .ref la])), (n1, .inl (k 1, 6, .inl fx5)), (n2, .inl (k 1, 6, .inl fx3))] H ∧ va_D A [(h0, .inr (4, [.ref n1, .ref n2, .ref la])), (n1, .inl (k 1, 6, .inl fx5)), (n2, .inl (k 1, 6, .inl fx3))] := ⟨_, hP, hD⟩
  refine lv_aload_n hx hb dX5_clear_20 rfl (lv_at hl 1 rfl) ?_
  refine va_get (ci := 4) (v := .ref n2) (C := RX5) (T := TX5) (N := 3) hx hb hts inX5 hown hK hP 0 rfl rfl 1 (by decide) lf15 (fun _ h9 => h9) rfl dX5_clear_21 ?_
  refine lv_iload_n hx hb dX5_clear_24 rfl (lv_at hl 0 rfl) ?_
  refine lv_iconst (v := 1) hx hb dX5_clear_25 (by decide) ?_
  refine lv_iload_n hx hb dX5_clear_26 rfl (lv_at hl 0 rfl) ?_
  refine lv_ishl hx hb dX5_clear_27 ?_
  refine p_topI (v := 2) (by decide) ?_
  refine va_iast hx hb hK hP hD hS 2 1 rfl rfl (show ¬ (_ ∨ _) by decide) dX5_clear_28 (fun H locs hP hD hS => ?_)
  obtain ⟨fx6, hP, hD⟩ : ∃ fx6, va_P D vwCl [(h0, .inr (4, [.ref n1, .ref n2, .ref la])), (n1, .inl (k 1, 6, .inl fx5)), (n2, .inl (k 1, 6, .inl fx6))] H ∧ va_D A [(h0, .inr (4, [.ref n1, .ref n2, .ref la])), (n1, .inl (k 1, 6, .inl fx5)), (n2, .inl (k 1, 6, .inl fx6))] := ⟨_, hP, hD⟩
  refine lv_iinc (v := 2) (lv' := [(2, .int 2), (0, .ref h0), (1, .ref la)]) hx hb dX5_clear_29 hl (k := 0) rfl (by decide) (by decide) rfl (fun ls hl => ?_)
  refine lv_goto (tgt := 7) hx hb dX5_clear_32 (by decide) ?_
  refine lv_iload_n hx hb dX5_clear_7 rfl (lv_at hl 0 rfl) ?_
  refine lv_bipush (v := 6) hx hb dX5_clear_8 (by decide) ?_
  refine lv_icmp_ge (tgt := 35) hx hb dX5_clear_10 (by decide) (fun h9 => absurd h9 (by decide)) (fun cx7 => ?_)
  refine lv_aload_n hx hb dX5_clear_13 rfl (lv_at hl 1 rfl) ?_
  refine va_get (ci := 4) (v := .ref n1) (C := RX5) (T := TX5) (N := 3) hx hb hts inX5 hown hK hP 0 rfl rfl 0 (by decide) lf9 (fun _ h9 => h9) rfl dX5_clear_14 ?_
  refine lv_iload_n hx hb dX5_clear_17 rfl (lv_at hl 0 rfl) ?_
  refine lv_iconst (v := (-1)) hx hb dX5_clear_18 (by decide) ?_
  refine va_iast hx hb hK hP hD hS 1 1 rfl rfl (show ¬ (_ ∨ _) by decide) dX5_clear_19 (fun H locs hP hD hS => ?_)
  obtain ⟨fx8, hP, hD⟩ : ∃ fx8, va_P D vwCl [(h0, .inr (4, [.ref n1, .ref n2, .ref la])), (n1, .inl (k 1, 6, .inl fx8)), (n2, .inl (k 1, 6, .inl fx6))] H ∧ va_D A [(h0, .inr (4, [.ref n1, .ref n2, .ref la])), (n1, .inl (k 1, 6, .inl fx8)), (n2, .inl (k 1, 6, .inl fx6))] := ⟨_, hP, hD⟩
  refine lv_aload_n hx hb dX5_clear_20 rfl (lv_at hl 1 rfl) ?_
  refine va_get (ci := 4) (v := .ref n2) (C := RX5) (T := TX5) (N := 3) hx hb hts inX5 hown hK hP 0 rfl rfl 1 (by decide) lf15 (fun _ h9 => h9) rfl dX5_clear_21 ?_
  refine lv_iload_n hx hb dX5_clear_24 rfl (lv_at hl 0 rfl) ?_
  refine lv_iconst (v := 1) hx hb dX5_clear_25 (by decide) ?_
  refine lv_iload_n hx hb dX5_clear_26 rfl (lv_at hl 0 rfl) ?_
  refine lv_ishl hx hb dX5_clear_27 ?_
  refine p_topI (v := 4) (by decide) ?_
  refine va_iast hx hb hK hP hD hS 2 1 rfl rfl (show ¬ (_ ∨ _) by decide) dX5_clear_28 (fun H locs hP hD hS => ?_)
  obtain ⟨fx9, hP, hD⟩ : ∃ fx9, va_P D vwCl [(h0, .inr (4, [.ref n1, .ref n2, .ref la])), (n1, .inl (k 1, 6, .inl fx8)), (n2, .inl (k 1, 6, .inl fx9))] H ∧ va_D A [(h0, .inr (4, [.ref n1, .ref n2, .ref la])), (n1, .inl (k 1, 6, .inl fx8)), (n2, .inl (k 1, 6, .inl fx9))] := ⟨_, hP, hD⟩
  refine lv_iinc (v := 3) (lv' := [(2, .int 3), (0, .ref h0), (1, .ref la)]) hx hb dX5_clear_29 hl (k := 0) rfl (by decide) (by decide) rfl (fun ls hl => ?_)
  refine lv_goto (tgt := 7) hx hb dX5_clear_32 (by decide) ?_
  refine lv_iload_n hx hb dX5_clear_7 rfl (lv_at hl 0 rfl) ?_
  refine lv_bipush (v := 6) hx hb dX5_clear_8 (by decide) ?_
  refine lv_icmp_ge (tgt := 35) hx hb dX5_clear_10 (by decide) (fun h9 => absurd h9 (by decide)) (fun cx10 => ?_)
  refine lv_aload_n hx hb dX5_clear_13 rfl (lv_at hl 1 rfl) ?_
  refine va_get (ci := 4) (v := .ref n1) (C := RX5) (T := TX5) (N := 3) hx hb hts inX5 hown hK hP 0 rfl rfl 0 (by decide) lf9 (fun _ h9 => h9) rfl dX5_clear_14 ?_
  refine lv_iload_n hx hb dX5_clear_17 rfl (lv_at hl 0 rfl) ?_
  refine lv_iconst (v := (-1)) hx hb dX5_clear_18 (by decide) ?_
  refine va_iast hx hb hK hP hD hS 1 1 rfl rfl (show ¬ (_ ∨ _) by decide) dX5_clear_19 (fun H locs hP hD hS => ?_)
  obtain ⟨fx11, hP, hD⟩ : ∃ fx11, va_P D vwCl [(h0, .inr (4, [.ref n1, .ref n2, .ref la])), (n1, .inl (k 1, 6, .inl fx11)), (n2, .inl (k 1, 6, .inl fx9))] H ∧ va_D A [(h0, .inr (4, [.ref n1, .ref n2, .ref la])), (n1, .inl (k 1, 6, .inl fx11)), (n2, .inl (k 1, 6, .inl fx9))] := ⟨_, hP, hD⟩
  refine lv_aload_n hx hb dX5_clear_20 rfl (lv_at hl 1 rfl) ?_
  refine va_get (ci := 4) (v := .ref n2) (C := RX5) (T := TX5) (N := 3) hx hb hts inX5 hown hK hP 0 rfl rfl 1 (by decide) lf15 (fun _ h9 => h9) rfl dX5_clear_21 ?_
  refine lv_iload_n hx hb dX5_clear_24 rfl (lv_at hl 0 rfl) ?_
  refine lv_iconst (v := 1) hx hb dX5_clear_25 (by decide) ?_
  refine lv_iload_n hx hb dX5_clear_26 rfl (lv_at hl 0 rfl) ?_
  refine lv_ishl hx hb dX5_clear_27 ?_
  refine p_topI (v := 8) (by decide) ?_
  refine va_iast hx hb hK hP hD hS 2 1 rfl rfl (show ¬ (_ ∨ _) by decide) dX5_clear_28 (fun H locs hP hD hS => ?_)
  obtain ⟨fx12, hP, hD⟩ : ∃ fx12, va_P D vwCl [(h0, .inr (4, [.ref n1, .ref n2, .ref la])), (n1, .inl (k 1, 6, .inl fx11)), (n2, .inl (k 1, 6, .inl fx12))] H ∧ va_D A [(h0, .inr (4, [.ref n1, .ref n2, .ref la])), (n1, .inl (k 1, 6, .inl fx11)), (n2, .inl (k 1, 6, .inl fx12))] := ⟨_, hP, hD⟩
  refine lv_iinc (v := 4) (lv' := [(2, .int 4), (0, .ref h0), (1, .ref la)]) hx hb dX5_clear_29 hl (k := 0) rfl (by decide) (by decide) rfl (fun ls hl => ?_)
  refine lv_goto (tgt := 7) hx hb dX5_clear_32 (by decide) ?_
  refine lv_iload_n hx hb dX5_clear_7 rfl (lv_at hl 0 rfl) ?_
  refine lv_bipush (v := 6) hx hb dX5_clear_8 (by decide) ?_
  refine lv_icmp_ge (tgt := 35) hx hb dX5_clear_10 (by decide) (fun h9 => absurd h9 (by decide)) (fun cx13 => ?_)
  refine lv_aload_n hx hb dX5_clear_13 rfl (lv_at hl 1 rfl) ?_
  refine va_get (ci := 4) (v := .ref n1) (C := RX5) (T := TX5) (N := 3) hx hb hts inX5 hown hK hP 0 rfl rfl 0 (by decide) lf9 (fun _ h9 => h9) rfl dX5_clear_14 ?_
  refine lv_iload_n hx hb dX5_clear_17 rfl (lv_at hl 0 rfl) ?_
  refine lv_iconst (v := (-1)) hx hb dX5_clear_18 (by decide) ?_
  refine va_iast hx hb hK hP hD hS 1 1 rfl rfl (show ¬ (_ ∨ _) by decide) dX5_clear_19 (fun H locs hP hD hS => ?_)
  obtain ⟨fx14, hP, hD⟩ : ∃ fx14, va_P D vwCl [(h0, .inr (4, [.ref n1, .ref n2, .ref la])), (n1, .inl (k 1, 6, .inl fx14)), (n2, .inl (k 1, 6, .inl fx12))] H ∧ va_D A [(h0, .inr (4, [.ref n1, .ref n2, .ref la])), (n1, .inl (k 1, 6, .inl fx14)), (n2, .inl (k 1, 6, .inl fx12))] := ⟨_, hP, hD⟩
  refine lv_aload_n hx hb dX5_clear_20 rfl (lv_at hl 1 rfl) ?_
  refine va_get (ci := 4) (v := .ref n2) (C := RX5) (T := TX5) (N := 3) hx hb hts inX5 hown hK hP 0 rfl rfl 1 (by decide) lf15 (fun _ h9 => h9) rfl dX5_clear_21 ?_
  refine lv_iload_n hx hb dX5_clear_24 rfl (lv_at hl 0 rfl) ?_
  refine lv_iconst (v := 1) hx hb dX5_clear_25 (by decide) ?_
  refine lv_iload_n hx hb dX5_clear_26 rfl (lv_at hl 0 rfl) ?_
  refine lv_ishl hx hb dX5_clear_27 ?_
  refine p_topI (v := 16) (by decide) ?_
  refine va_iast hx hb hK hP hD hS 2 1 rfl rfl (show ¬ (_ ∨ _) by decide) dX5_clear_28 (fun H locs hP hD hS => ?_)
  obtain ⟨fx15, hP, hD⟩ : ∃ fx15, va_P D vwCl [(h0, .inr (4, [.ref n1, .ref n2, .ref la])), (n1, .inl (k 1, 6, .inl fx14)), (n2, .inl (k 1, 6, .inl fx15))] H ∧ va_D A [(h0, .inr (4, [.ref n1, .ref n2, .ref la])), (n1, .inl (k 1, 6, .inl fx14)), (n2, .inl (k 1, 6, .inl fx15))] := ⟨_, hP, hD⟩
  refine lv_iinc (v := 5) (lv' := [(2, .int 5), (0, .ref h0), (1, .ref la)]) hx hb dX5_clear_29 hl (k := 0) rfl (by decide) (by decide) rfl (fun ls hl => ?_)
  refine lv_goto (tgt := 7) hx hb dX5_clear_32 (by decide) ?_
  refine lv_iload_n hx hb dX5_clear_7 rfl (lv_at hl 0 rfl) ?_
  refine lv_bipush (v := 6) hx hb dX5_clear_8 (by decide) ?_
  refine lv_icmp_ge (tgt := 35) hx hb dX5_clear_10 (by decide) (fun h9 => absurd h9 (by decide)) (fun cx16 => ?_)
  refine lv_aload_n hx hb dX5_clear_13 rfl (lv_at hl 1 rfl) ?_
  refine va_get (ci := 4) (v := .ref n1) (C := RX5) (T := TX5) (N := 3) hx hb hts inX5 hown hK hP 0 rfl rfl 0 (by decide) lf9 (fun _ h9 => h9) rfl dX5_clear_14 ?_
  refine lv_iload_n hx hb dX5_clear_17 rfl (lv_at hl 0 rfl) ?_
  refine lv_iconst (v := (-1)) hx hb dX5_clear_18 (by decide) ?_
  refine va_iast hx hb hK hP hD hS 1 1 rfl rfl (show ¬ (_ ∨ _) by decide) dX5_clear_19 (fun H locs hP hD hS => ?_)
  obtain ⟨fx17, hP, hD⟩ : ∃ fx17, va_P D vwCl [(h0, .inr (4, [.ref n1, .ref n2, .ref la])), (n1, .inl (k 1, 6, .inl fx17)), (n2, .inl (k 1, 6, .inl fx15))] H ∧ va_D A [(h0, .inr (4, [.ref n1, .ref n2, .ref la])), (n1, .inl (k 1, 6, .inl fx17)), (n2, .inl (k 1, 6, .inl fx15))] := ⟨_, hP, hD⟩
  refine lv_aload_n hx hb dX5_clear_20 rfl (lv_at hl 1 rfl) ?_
  refine va_get (ci := 4) (v := .ref n2) (C := RX5) (T := TX5) (N := 3) hx hb hts inX5 hown hK hP 0 rfl rfl 1 (by decide) lf15 (fun _ h9 => h9) rfl dX5_clear_21 ?_
  refine lv_iload_n hx hb dX5_clear_24 rfl (lv_at hl 0 rfl) ?_
  refine lv_iconst (v := 1) hx hb dX5_clear_25 (by decide) ?_
  refine lv_iload_n hx hb dX5_clear_26 rfl (lv_at hl 0 rfl) ?_
  refine lv_ishl hx hb dX5_clear_27 ?_
  refine p_topI (v := 32) (by decide) ?_
  refine va_iast hx hb hK hP hD hS 2 1 rfl rfl (show ¬ (_ ∨ _) by decide) dX5_clear_28 (fun H locs hP hD hS => ?_)
  obtain ⟨fx18, hP, hD⟩ : ∃ fx18, va_P D vwCl [(h0, .inr (4, [.ref n1, .ref n2, .ref la])), (n1, .inl (k 1, 6, .inl fx17)), (n2, .inl (k 1, 6, .inl fx18))] H ∧ va_D A [(h0, .inr (4, [.ref n1, .ref n2, .ref la])), (n1, .inl (k 1, 6, .inl fx17)), (n2, .inl (k 1, 6, .inl fx18))] := ⟨_, hP, hD⟩
  refine lv_iinc (v := 6) (lv' := [(2, .int 6), (0, .ref h0), (1, .ref la)]) hx hb dX5_clear_29 hl (k := 0) rfl (by decide) (by decide) rfl (fun ls hl => ?_)
  refine lv_goto (tgt := 7) hx hb dX5_clear_32 (by decide) ?_
  refine lv_iload_n hx hb dX5_clear_7 rfl (lv_at hl 0 rfl) ?_
  refine lv_bipush (v := 6) hx hb dX5_clear_8 (by decide) ?_
  refine lv_icmp_ge (tgt := 35) hx hb dX5_clear_10 (by decide) (fun cx19 => ?_) (fun h9 => absurd (by decide) h9)
  exact hret _ _ _ _ _ _ (fx17, fx18) (by decide) (by decide) dX5_clear_35 trivial (hP.sub [0, 1, 2] rfl) (hD.sub [0, 1, 2] (by decide) rfl) hS
def pw_Net_lay : List Cond := .code yX5_lay cX5_lay 4 none :: ([.code yX5_clear cX5_clear 3 none, .fieldLink RX5 18 "RiverVows$Net" "land" "LRiverVows$Land;", .fieldLink RX5 9 "RiverVows$Net" "husband" "[I", .fieldLink RX5 15 "RiverVows$Net" "whole" "[I", .methodLink RX5 22 yX5_clear, .instanceMethod yX5_clear, .selects RX5 yX5_clear yX5_clear, .initialized RX5, .fieldLink RX5 26 "RiverVows$Land" "rivers" "I"] ++ wsX50 ++ wsX30)
set_option maxRecDepth 20000 in
theorem pg_Net_lay_0 : GoodIn pw_Net_lay (wsV RX5 22 RX5 yX5_clear pw_Net_clear) := goodIn_sub (by decide +kernel) (by decide +kernel)
set_option maxHeartbeats 4000000 in
set_option maxRecDepth 100000 in
theorem c_Net_lay (l : Launch) (D : va_G) (k : Nat → ClassId) (sz : Nat) (h0 : Nat) (n1 : Nat) (n2 : Nat) (la : Nat) (hu : Nat) (v : Value) (f : Nat → Int32) (g : Nat → Int32) (l0 : Nat) (l1 : Nat) (l2 : Nat) (l3 : Nat) (l4 : Nat) (l5 : Nat) (l6 : Nat)  : pMv l yX5_lay pw_Net_lay ({ frames := 1, cells := 0, slots := 0, locals := 22 }) D k [.ref h0, .ref la, .ref hu] [(h0, .inr (4, [.ref n1, .ref n2, v])), (n1, .inl (k 1, 6, .inl f)), (n2, .inl (k 1, 6, .inl g)), (la, .inr (2, [.ref l0, .ref l1, .ref l2, .ref l3, .ref l4, .ref l5, .ref l6, .int 0, .int 0, .int 0, .int 0, .int 0]))] sz (S := (Nat → Int32) × (Nat → Int32)) (fun u => True) (fun u => [(h0, .inr (4, [.ref n1, .ref n2, .ref la])), (n1, .inl (k 1, 6, .inl u.1)), (n2, .inl (k 1, 6, .inl u.2)), (la, .inr (2, [.ref l0, .ref l1, .ref l2, .ref l3, .ref l4, .ref l5, .ref l6, .int 0, .int 0, .int 0, .int 0, .int 0]))]) 0 0 := by
  refine p_ofv (cc := cX5_lay) (maxL := 4) (by decide) rfl (Nat.le_of_ble_eq_true rfl) ?_
  intro p e s m below meth c hx hb hml hown hts hin hK hN A hA hP hD hS Q hret ls hl
  have hl : lv_has ls 4 [(0, .ref h0), (1, .ref la), (2, .ref hu)] := hl
  have lf26 := hts (.fieldLink RX5 26 "RiverVows$Land" "rivers" "I") (by decide +kernel)
  have inX3 : ∀ w ∈ wsX30, w ∈ pw_Net_lay := by decide +kernel
  refine lv_aload_n hx hb dX5_lay_0 rfl (lv_at hl 0 rfl) ?_
  refine lv_aload_n hx hb dX5_lay_1 rfl (lv_at hl 1 rfl) ?_
  refine p_jv (wr := [(la, .inr (2, [.ref l0, .ref l1, .ref l2, .ref l3, .ref l4, .ref l5, .ref l6, .int 0, .int 0, .int 0, .int 0, .int 0]))]) (va_runV (As := [.ref la]) (rest := []) ⟨hx, hb, hml, hown, hts⟩ (c_Net_clear l D k _ h0 n1 n2 la v f g) (cwV 1 hts pg_Net_lay_0 rfl rfl rfl (by decide +kernel) ⟨Nat.le_of_ble_eq_true rfl, Nat.le_of_ble_eq_true rfl⟩) (pV hK hN hP hD [0, 1, 2] rfl (by decide) rfl 0 rfl rfl) rfl rfl hl.1 rfl (lv_room (Nat.le_of_ble_eq_true rfl)) dX5_lay_2 ⟨by decide, by decide⟩) hP hD hS hA [0, 1, 2] [3] rfl rfl (by decide) (by decide) (fun ux1 H locs wx2 hP hD hS => ?_)
  obtain ⟨f9_x4, g9_x5⟩ := ux1
  have hP : va_P D vwCl [(la, .inr (2, [.ref l0, .ref l1, .ref l2, .ref l3, .ref l4, .ref l5, .ref l6, .int 0, .int 0, .int 0, .int 0, .int 0])), (h0, .inr (4, [.ref n1, .ref n2, .ref la])), (n1, .inl (k 1, 6, .inl f9_x4)), (n2, .inl (k 1, 6, .inl g9_x5))] H := hP
  have hD : va_D A [(la, .inr (2, [.ref l0, .ref l1, .ref l2, .ref l3, .ref l4, .ref l5, .ref l6, .int 0, .int 0, .int 0, .int 0, .int 0])), (h0, .inr (4, [.ref n1, .ref n2, .ref la])), (n1, .inl (k 1, 6, .inl f9_x4)), (n2, .inl (k 1, 6, .inl g9_x5))] := hD
  refine lv_iconst (v := 0) hx hb dX5_lay_5 (by decide) ?_
  refine lv_istore_n (lv' := [(3, .int 0), (0, .ref h0), (1, .ref la), (2, .ref hu)]) hx hb dX5_lay_6 rfl hl (by decide) rfl (fun ls hl => ?_)
  refine lv_iload_n hx hb dX5_lay_7 rfl (lv_at hl 0 rfl) ?_
  refine lv_aload_n hx hb dX5_lay_8 rfl (lv_at hl 2 rfl) ?_
  refine va_get (ci := 2) (v := .int 0) (C := RX3) (T := TX3) (N := 12) hx hb hts inX3 hown hK hP 0 rfl rfl 7 (by decide) lf26 (fun _ h9 => h9) rfl dX5_lay_9 ?_
  refine lv_icmp_ge (tgt := 42) hx hb dX5_lay_12 (by decide) (fun cx6 => ?_) (fun h9 => absurd (by decide) h9)
  exact hret _ _ _ _ _ _ (f9_x4, g9_x5) (by decide) (by decide) dX5_lay_42 trivial (hP.sub [1, 2, 3, 0] rfl) (hD.sub [1, 2, 3, 0] (by decide) rfl) hS
def pw_Net_weddings : List Cond := .code yX5_weddings cX5_weddings 3 (some .int) :: ([.fieldLink RX5 18 "RiverVows$Net" "land" "LRiverVows$Land;", .fieldLink RX5 26 "RiverVows$Land" "rivers" "I"] ++ wsX50 ++ wsX30)
set_option maxHeartbeats 4000000 in
set_option maxRecDepth 100000 in
theorem c_Net_weddings (l : Launch) (D : va_G) (k : Nat → ClassId) (sz : Nat) (h0 : Nat) (n1 : Nat) (n2 : Nat) (la : Nat) (l0 : Nat) (l1 : Nat) (l2 : Nat) (l3 : Nat) (l4 : Nat) (l5 : Nat) (l6 : Nat)  : pMi l yX5_weddings pw_Net_weddings ({ frames := 0, cells := 0, slots := 0, locals := 0 }) D k [.ref h0] [(h0, .inr (4, [.ref n1, .ref n2, .ref la])), (la, .inr (2, [.ref l0, .ref l1, .ref l2, .ref l3, .ref l4, .ref l5, .ref l6, .int 0, .int 0, .int 0, .int 0, .int 0]))] sz (S := Unit) (fun r u => r = 0) (fun u => [(h0, .inr (4, [.ref n1, .ref n2, .ref la])), (la, .inr (2, [.ref l0, .ref l1, .ref l2, .ref l3, .ref l4, .ref l5, .ref l6, .int 0, .int 0, .int 0, .int 0, .int 0]))]) 0 0 := by
  refine p_ofi (cc := cX5_weddings) (maxL := 3) (rt := .int) (by decide) rfl (Nat.le_of_ble_eq_true rfl) ?_
  intro p e s m below meth c hx hb hml hown hts hK hN A hA hP hD hS Q hret ls hl
  have hl : lv_has ls 3 [(0, .ref h0)] := hl
  have lf18 := hts (.fieldLink RX5 18 "RiverVows$Net" "land" "LRiverVows$Land;") (by decide +kernel)
  have inX5 : ∀ w ∈ wsX50, w ∈ pw_Net_weddings := by decide +kernel
  have lf26 := hts (.fieldLink RX5 26 "RiverVows$Land" "rivers" "I") (by decide +kernel)
  have inX3 : ∀ w ∈ wsX30, w ∈ pw_Net_weddings := by decide +kernel
  refine lv_iconst (v := 0) hx hb dX5_weddings_0 (by decide) ?_
  refine lv_istore_n (lv' := [(1, .int 0), (0, .ref h0)]) hx hb dX5_weddings_1 rfl hl (by decide) rfl (fun ls hl => ?_)
  refine lv_iconst (v := 0) hx hb dX5_weddings_2 (by decide) ?_
  refine lv_istore_n (lv' := [(2, .int 0), (1, .int 0), (0, .ref h0)]) hx hb dX5_weddings_3 rfl hl (by decide) rfl (fun ls hl => ?_)
  refine lv_iload_n hx hb dX5_weddings_4 rfl (lv_at hl 0 rfl) ?_
  refine lv_aload_n hx hb dX5_weddings_5 rfl (lv_at hl 2 rfl) ?_
  refine va_get (ci := 4) (v := .ref la) (C := RX5) (T := TX5) (N := 3) hx hb hts inX5 hown hK hP 0 rfl rfl 2 (by decide) lf18 (fun _ h9 => h9) rfl dX5_weddings_6 ?_
  refine va_get (ci := 2) (v := .int 0) (C := RX3) (T := TX3) (N := 12) hx hb hts inX3 hown hK hP 1 rfl rfl 7 (by decide) lf26 (fun _ h9 => h9) rfl dX5_weddings_9 ?_
  refine lv_icmp_ge (tgt := 34) hx hb dX5_weddings_12 (by decide) (fun cx1 => ?_) (fun h9 => absurd (by decide) h9)
  refine lv_iload_n hx hb dX5_weddings_34 rfl (lv_at hl 1 rfl) ?_
  exact hret _ _ _ _ _ _ 0 () (by decide) (by decide) dX5_weddings_35 rfl rfl (hP.sub [0, 1] rfl) (hD.sub [0, 1] (by decide) rfl) hS
def pw_Net_dryMills : List Cond := .code yX5_dryMills cX5_dryMills 5 (some .int) :: ([.fieldLink RX5 18 "RiverVows$Net" "land" "LRiverVows$Land;", .fieldLink RX5 26 "RiverVows$Land" "rivers" "I"] ++ wsX50 ++ wsX30)
set_option maxHeartbeats 4000000 in
set_option maxRecDepth 100000 in
theorem c_Net_dryMills (l : Launch) (D : va_G) (k : Nat → ClassId) (sz : Nat) (h0 : Nat) (n1 : Nat) (n2 : Nat) (la : Nat) (l0 : Nat) (l1 : Nat) (l2 : Nat) (l3 : Nat) (l4 : Nat) (l5 : Nat) (l6 : Nat) (s0 : Int32)  : pMi l yX5_dryMills pw_Net_dryMills ({ frames := 0, cells := 0, slots := 0, locals := 0 }) D k [.ref h0, .int s0] [(h0, .inr (4, [.ref n1, .ref n2, .ref la])), (la, .inr (2, [.ref l0, .ref l1, .ref l2, .ref l3, .ref l4, .ref l5, .ref l6, .int 0, .int 0, .int 0, .int 0, .int 0]))] sz (S := Unit) (fun r u => r = 0) (fun u => [(h0, .inr (4, [.ref n1, .ref n2, .ref la])), (la, .inr (2, [.ref l0, .ref l1, .ref l2, .ref l3, .ref l4, .ref l5, .ref l6, .int 0, .int 0, .int 0, .int 0, .int 0]))]) 0 0 := by
  refine p_ofi (cc := cX5_dryMills) (maxL := 5) (rt := .int) (by decide) rfl (Nat.le_of_ble_eq_true rfl) ?_
  intro p e s m below meth c hx hb hml hown hts hK hN A hA hP hD hS Q hret ls hl
  have hl : lv_has ls 5 [(0, .ref h0), (1, .int s0)] := hl
  have lf18 := hts (.fieldLink RX5 18 "RiverVows$Net" "land" "LRiverVows$Land;") (by decide +kernel)
  have inX5 : ∀ w ∈ wsX50, w ∈ pw_Net_dryMills := by decide +kernel
  have lf26 := hts (.fieldLink RX5 26 "RiverVows$Land" "rivers" "I") (by decide +kernel)
  have inX3 : ∀ w ∈ wsX30, w ∈ pw_Net_dryMills := by decide +kernel
  refine lv_iconst (v := 0) hx hb dX5_dryMills_0 (by decide) ?_
  refine lv_istore_n (lv' := [(2, .int 0), (0, .ref h0), (1, .int s0)]) hx hb dX5_dryMills_1 rfl hl (by decide) rfl (fun ls hl => ?_)
  refine lv_iconst (v := 0) hx hb dX5_dryMills_2 (by decide) ?_
  refine lv_istore_n (lv' := [(3, .int 0), (2, .int 0), (0, .ref h0), (1, .int s0)]) hx hb dX5_dryMills_3 rfl hl (by decide) rfl (fun ls hl => ?_)
  refine lv_iload_n hx hb dX5_dryMills_4 rfl (lv_at hl 0 rfl) ?_
  refine lv_aload_n hx hb dX5_dryMills_5 rfl (lv_at hl 2 rfl) ?_
  refine va_get (ci := 4) (v := .ref la) (C := RX5) (T := TX5) (N := 3) hx hb hts inX5 hown hK hP 0 rfl rfl 2 (by decide) lf18 (fun _ h9 => h9) rfl dX5_dryMills_6 ?_
  refine va_get (ci := 2) (v := .int 0) (C := RX3) (T := TX3) (N := 12) hx hb hts inX3 hown hK hP 1 rfl rfl 7 (by decide) lf26 (fun _ h9 => h9) rfl dX5_dryMills_9 ?_
  refine lv_icmp_ge (tgt := 73) hx hb dX5_dryMills_12 (by decide) (fun cx1 => ?_) (fun h9 => absurd (by decide) h9)
  refine lv_iload_n hx hb dX5_dryMills_73 rfl (lv_at hl 1 rfl) ?_
  exact hret _ _ _ _ _ _ 0 () (by decide) (by decide) dX5_dryMills_74 rfl rfl (hP.sub [0, 1] rfl) (hD.sub [0, 1] (by decide) rfl) hS
def pw_Net_floodedTowns : List Cond := .code yX5_floodedTowns cX5_floodedTowns 5 (some .int) :: ([.fieldLink RX5 18 "RiverVows$Net" "land" "LRiverVows$Land;", .fieldLink RX5 26 "RiverVows$Land" "rivers" "I"] ++ wsX50 ++ wsX30)
set_option maxHeartbeats 4000000 in
set_option maxRecDepth 100000 in
theorem c_Net_floodedTowns (l : Launch) (D : va_G) (k : Nat → ClassId) (sz : Nat) (h0 : Nat) (n1 : Nat) (n2 : Nat) (la : Nat) (l0 : Nat) (l1 : Nat) (l2 : Nat) (l3 : Nat) (l4 : Nat) (l5 : Nat) (l6 : Nat) (s0 : Int32)  : pMi l yX5_floodedTowns pw_Net_floodedTowns ({ frames := 0, cells := 0, slots := 0, locals := 0 }) D k [.ref h0, .int s0] [(h0, .inr (4, [.ref n1, .ref n2, .ref la])), (la, .inr (2, [.ref l0, .ref l1, .ref l2, .ref l3, .ref l4, .ref l5, .ref l6, .int 0, .int 0, .int 0, .int 0, .int 0]))] sz (S := Unit) (fun r u => r = 0) (fun u => [(h0, .inr (4, [.ref n1, .ref n2, .ref la])), (la, .inr (2, [.ref l0, .ref l1, .ref l2, .ref l3, .ref l4, .ref l5, .ref l6, .int 0, .int 0, .int 0, .int 0, .int 0]))]) 0 0 := by
  refine p_ofi (cc := cX5_floodedTowns) (maxL := 5) (rt := .int) (by decide) rfl (Nat.le_of_ble_eq_true rfl) ?_
  intro p e s m below meth c hx hb hml hown hts hK hN A hA hP hD hS Q hret ls hl
  have hl : lv_has ls 5 [(0, .ref h0), (1, .int s0)] := hl
  have lf18 := hts (.fieldLink RX5 18 "RiverVows$Net" "land" "LRiverVows$Land;") (by decide +kernel)
  have inX5 : ∀ w ∈ wsX50, w ∈ pw_Net_floodedTowns := by decide +kernel
  have lf26 := hts (.fieldLink RX5 26 "RiverVows$Land" "rivers" "I") (by decide +kernel)
  have inX3 : ∀ w ∈ wsX30, w ∈ pw_Net_floodedTowns := by decide +kernel
  refine lv_iconst (v := 0) hx hb dX5_floodedTowns_0 (by decide) ?_
  refine lv_istore_n (lv' := [(2, .int 0), (0, .ref h0), (1, .int s0)]) hx hb dX5_floodedTowns_1 rfl hl (by decide) rfl (fun ls hl => ?_)
  refine lv_iconst (v := 0) hx hb dX5_floodedTowns_2 (by decide) ?_
  refine lv_istore_n (lv' := [(3, .int 0), (2, .int 0), (0, .ref h0), (1, .int s0)]) hx hb dX5_floodedTowns_3 rfl hl (by decide) rfl (fun ls hl => ?_)
  refine lv_iload_n hx hb dX5_floodedTowns_4 rfl (lv_at hl 0 rfl) ?_
  refine lv_aload_n hx hb dX5_floodedTowns_5 rfl (lv_at hl 2 rfl) ?_
  refine va_get (ci := 4) (v := .ref la) (C := RX5) (T := TX5) (N := 3) hx hb hts inX5 hown hK hP 0 rfl rfl 2 (by decide) lf18 (fun _ h9 => h9) rfl dX5_floodedTowns_6 ?_
  refine va_get (ci := 2) (v := .int 0) (C := RX3) (T := TX3) (N := 12) hx hb hts inX3 hown hK hP 1 rfl rfl 7 (by decide) lf26 (fun _ h9 => h9) rfl dX5_floodedTowns_9 ?_
  refine lv_icmp_ge (tgt := 73) hx hb dX5_floodedTowns_12 (by decide) (fun cx1 => ?_) (fun h9 => absurd (by decide) h9)
  refine lv_iload_n hx hb dX5_floodedTowns_73 rfl (lv_at hl 1 rfl) ?_
  exact hret _ _ _ _ _ _ 0 () (by decide) (by decide) dX5_floodedTowns_74 rfl rfl (hP.sub [0, 1] rfl) (hD.sub [0, 1] (by decide) rfl) hS
def pw_Net_isNeedy : List Cond := .code yX5_isNeedy cX5_isNeedy 2 (some .boolean) :: ([.code yX5_dryMills cX5_dryMills 5 (some .int), .fieldLink RX5 18 "RiverVows$Net" "land" "LRiverVows$Land;", .fieldLink RX5 26 "RiverVows$Land" "rivers" "I", .methodLink RX5 74 yX5_dryMills, .instanceMethod yX5_dryMills, .selects RX5 yX5_dryMills yX5_dryMills, .initialized RX5, .code yX5_floodedTowns cX5_floodedTowns 5 (some .int), .methodLink RX5 78 yX5_floodedTowns, .instanceMethod yX5_floodedTowns, .selects RX5 yX5_floodedTowns yX5_floodedTowns] ++ wsX50 ++ wsX30)
set_option maxRecDepth 20000 in
theorem pg_Net_isNeedy_0 : GoodIn pw_Net_isNeedy (wsV RX5 74 RX5 yX5_dryMills pw_Net_dryMills) := goodIn_sub (by decide +kernel) (by decide +kernel)
set_option maxRecDepth 20000 in
theorem pg_Net_isNeedy_1 : GoodIn pw_Net_isNeedy (wsV RX5 78 RX5 yX5_floodedTowns pw_Net_floodedTowns) := goodIn_sub (by decide +kernel) (by decide +kernel)
set_option maxHeartbeats 4000000 in
set_option maxRecDepth 100000 in
theorem c_Net_isNeedy (l : Launch) (D : va_G) (k : Nat → ClassId) (sz : Nat) (h0 : Nat) (n1 : Nat) (n2 : Nat) (la : Nat) (l0 : Nat) (l1 : Nat) (l2 : Nat) (l3 : Nat) (l4 : Nat) (l5 : Nat) (l6 : Nat) (s0 : Int32)  : pMi l yX5_isNeedy pw_Net_isNeedy ({ frames := 1, cells := 0, slots := 0, locals := 24 }) D k [.ref h0, .int s0] [(h0, .inr (4, [.ref n1, .ref n2, .ref la])), (la, .inr (2, [.ref l0, .ref l1, .ref l2, .ref l3, .ref l4, .ref l5, .ref l6, .int 0, .int 0, .int 0, .int 0, .int 0]))] sz (S := Unit) (fun r u => r = 0) (fun u => [(h0, .inr (4, [.ref n1, .ref n2, .ref la])), (la, .inr (2, [.ref l0, .ref l1, .ref l2, .ref l3, .ref l4, .ref l5, .ref l6, .int 0, .int 0, .int 0, .int 0, .int 0]))]) 0 0 := by
  refine p_ofi (cc := cX5_isNeedy) (maxL := 2) (rt := .boolean) (by decide) rfl (Nat.le_of_ble_eq_true rfl) ?_
  intro p e s m below meth c hx hb hml hown hts hK hN A hA hP hD hS Q hret ls hl
  have hl : lv_has ls 2 [(0, .ref h0), (1, .int s0)] := hl
  refine lv_aload_n hx hb dX5_isNeedy_0 rfl (lv_at hl 0 rfl) ?_
  refine lv_iload_n hx hb dX5_isNeedy_1 rfl (lv_at hl 1 rfl) ?_
  refine p_ji (wr := []) (va_runV (As := [.int s0]) (rest := []) ⟨hx, hb, hml, hown, hts⟩ (c_Net_dryMills l D k _ h0 n1 n2 la l0 l1 l2 l3 l4 l5 l6 s0) (cwV 1 hts pg_Net_isNeedy_0 rfl rfl rfl (by decide +kernel) ⟨Nat.le_of_ble_eq_true rfl, Nat.le_of_ble_eq_true rfl⟩) (pV hK hN hP hD [0, 1] rfl (by decide) rfl 0 rfl rfl) rfl rfl hl.1 rfl (lv_room (Nat.le_of_ble_eq_true rfl)) dX5_isNeedy_2 ⟨by decide, by decide⟩) hP hD hS hA [0, 1] [] rfl rfl (by decide) (by decide) (fun rx3 ux1 H locs wx2 hP hD hS => ?_)
  have hx4 : rx3 = 0 := wx2
  subst hx4
  have hP : va_P D vwCl [(h0, .inr (4, [.ref n1, .ref n2, .ref la])), (la, .inr (2, [.ref l0, .ref l1, .ref l2, .ref l3, .ref l4, .ref l5, .ref l6, .int 0, .int 0, .int 0, .int 0, .int 0]))] H := hP
  have hD : va_D A [(h0, .inr (4, [.ref n1, .ref n2, .ref la])), (la, .inr (2, [.ref l0, .ref l1, .ref l2, .ref l3, .ref l4, .ref l5, .ref l6, .int 0, .int 0, .int 0, .int 0, .int 0]))] := hD
  refine lv_if_ne (tgt := 16) hx hb dX5_isNeedy_5 (by decide) (fun h9 => absurd (by decide) h9) (fun cx5 => ?_)
  refine lv_aload_n hx hb dX5_isNeedy_8 rfl (lv_at hl 0 rfl) ?_
  refine lv_iload_n hx hb dX5_isNeedy_9 rfl (lv_at hl 1 rfl) ?_
  refine p_ji (wr := []) (va_runV (As := [.int s0]) (rest := []) ⟨hx, hb, hml, hown, hts⟩ (c_Net_floodedTowns l D k _ h0 n1 n2 la l0 l1 l2 l3 l4 l5 l6 s0) (cwV 1 hts pg_Net_isNeedy_1 rfl rfl rfl (by decide +kernel) ⟨Nat.le_of_ble_eq_true rfl, Nat.le_of_ble_eq_true rfl⟩) (pV hK hN hP hD [0, 1] rfl (by decide) rfl 0 rfl rfl) rfl rfl hl.1 rfl (lv_room (Nat.le_of_ble_eq_true rfl)) dX5_isNeedy_10 ⟨by decide, by decide⟩) hP hD hS hA [0, 1] [] rfl rfl (by decide) (by decide) (fun rx8 ux6 H locs wx7 hP hD hS => ?_)
  have hx9 : rx8 = 0 := wx7
  subst hx9
  have hP : va_P D vwCl [(h0, .inr (4, [.ref n1, .ref n2, .ref la])), (la, .inr (2, [.ref l0, .ref l1, .ref l2, .ref l3, .ref l4, .ref l5, .ref l6, .int 0, .int 0, .int 0, .int 0, .int 0]))] H := hP
  have hD : va_D A [(h0, .inr (4, [.ref n1, .ref n2, .ref la])), (la, .inr (2, [.ref l0, .ref l1, .ref l2, .ref l3, .ref l4, .ref l5, .ref l6, .int 0, .int 0, .int 0, .int 0, .int 0]))] := hD
  refine lv_if_eq (tgt := 20) hx hb dX5_isNeedy_13 (by decide) (fun cx10 => ?_) (fun h9 => absurd (by decide) h9)
  refine lv_iconst (v := 0) hx hb dX5_isNeedy_20 (by decide) ?_
  exact hret _ _ _ _ _ _ 0 () (by decide) (by decide) dX5_isNeedy_21 rfl rfl (hP.sub [0, 1] rfl) (hD.sub [0, 1] (by decide) rfl) hS
def pw_Scanner_keep : List Cond := .code yX8_keep cX8_keep 5 none :: ([.fieldLink RX8 30 "RiverVows$Scanner" "tokens" "I", .fieldLink RX8 15 "RiverVows$Scanner" "kinds" "[I", .fieldLink RX8 19 "RiverVows$Scanner" "starts" "[I", .fieldLink RX8 22 "RiverVows$Scanner" "keys" "[J"] ++ wsX80)
set_option maxHeartbeats 4000000 in
set_option maxRecDepth 100000 in
theorem c_Scanner_keep (l : Launch) (D : va_G) (k : Nat → ClassId) (sz : Nat) (h0 : Nat) (k0 : Nat) (k1 : Nat) (k2 : Nat) (k3 : Nat) (w6 : Int32) (w7 : Int32) (w8 : Int32) (w9 : Int32) (w10 : Int64) (f1 : Nat → Int32) (f2 : Nat → Int32) (f3 : Nat → Int64)  : pMv l yX8_keep pw_Scanner_keep ({ frames := 0, cells := 0, slots := 0, locals := 0 }) D k [.ref h0, .int 0, .int 0, .long 0] [(h0, .inr (7, [.ref k0, .ref k1, .ref k2, .ref k3, .int 0, .int w6, .int 0, .int w7, .int w8, .int w9, .long w10, .null])), (k1, .inl (k 1, 1001, .inl f1)), (k2, .inl (k 1, 1001, .inl f2)), (k3, .inl (k 2, 1001, .inr (.inl f3)))] sz (S := (Nat → Int32) × (Nat → Int64)) (fun u => True) (fun u => [(h0, .inr (7, [.ref k0, .ref k1, .ref k2, .ref k3, .int 1, .int w6, .int 0, .int w7, .int w8, .int w9, .long w10, .null])), (k1, .inl (k 1, 1001, .inl (upd f1 0 0))), (k2, .inl (k 1, 1001, .inl u.1)), (k3, .inl (k 2, 1001, .inr (.inl u.2)))]) 0 0 := by
  refine p_ofv (cc := cX8_keep) (maxL := 5) (by decide) rfl (Nat.le_of_ble_eq_true rfl) ?_
  intro p e s m below meth c hx hb hml hown hts hin hK hN A hA hP hD hS Q hret ls hl
  have hl : lv_has ls 5 [(0, .ref h0), (1, .int 0), (2, .int 0), (3, .long 0)] := hl
  have lf30 := hts (.fieldLink RX8 30 "RiverVows$Scanner" "tokens" "I") (by decide +kernel)
  have inX8 : ∀ w ∈ wsX80, w ∈ pw_Scanner_keep := by decide +kernel
  have lf15 := hts (.fieldLink RX8 15 "RiverVows$Scanner" "kinds" "[I") (by decide +kernel)
  have lf19 := hts (.fieldLink RX8 19 "RiverVows$Scanner" "starts" "[I") (by decide +kernel)
  have lf22 := hts (.fieldLink RX8 22 "RiverVows$Scanner" "keys" "[J") (by decide +kernel)
  refine lv_aload_n hx hb dX8_keep_0 rfl (lv_at hl 0 rfl) ?_
  refine va_get (ci := 7) (v := .int 0) (C := RX8) (T := TX8) (N := 12) hx hb hts inX8 hown hK hP 0 rfl rfl 4 (by decide) lf30 (fun _ h9 => h9) rfl dX8_keep_1 ?_
  refine lv_sipush (v := 1000) hx hb dX8_keep_4 (by decide) ?_
  refine lv_icmp_gt (tgt := 50) hx hb dX8_keep_7 (by decide) (fun h9 => absurd h9 (by decide)) (fun cx1 => ?_)
  refine lv_aload_n hx hb dX8_keep_10 rfl (lv_at hl 0 rfl) ?_
  refine va_get (ci := 7) (v := .ref k1) (C := RX8) (T := TX8) (N := 12) hx hb hts inX8 hown hK hP 0 rfl rfl 1 (by decide) lf15 (fun _ h9 => h9) rfl dX8_keep_11 ?_
  refine lv_aload_n hx hb dX8_keep_14 rfl (lv_at hl 0 rfl) ?_
  refine va_get (ci := 7) (v := .int 0) (C := RX8) (T := TX8) (N := 12) hx hb hts inX8 hown hK hP 0 rfl rfl 4 (by decide) lf30 (fun _ h9 => h9) rfl dX8_keep_15 ?_
  refine lv_iload_n hx hb dX8_keep_18 rfl (lv_at hl 1 rfl) ?_
  refine va_iast hx hb hK hP hD hS 1 1 rfl rfl (show ¬ (_ ∨ _) by decide) dX8_keep_19 (fun H locs hP hD hS => ?_)
  have hP : va_P D vwCl [(h0, .inr (7, [.ref k0, .ref k1, .ref k2, .ref k3, .int 0, .int w6, .int 0, .int w7, .int w8, .int w9, .long w10, .null])), (k1, .inl (k 1, 1001, .inl (upd f1 0 0))), (k2, .inl (k 1, 1001, .inl f2)), (k3, .inl (k 2, 1001, .inr (.inl f3)))] H := hP
  have hD : va_D A [(h0, .inr (7, [.ref k0, .ref k1, .ref k2, .ref k3, .int 0, .int w6, .int 0, .int w7, .int w8, .int w9, .long w10, .null])), (k1, .inl (k 1, 1001, .inl (upd f1 0 0))), (k2, .inl (k 1, 1001, .inl f2)), (k3, .inl (k 2, 1001, .inr (.inl f3)))] := hD
  refine lv_aload_n hx hb dX8_keep_20 rfl (lv_at hl 0 rfl) ?_
  refine va_get (ci := 7) (v := .ref k2) (C := RX8) (T := TX8) (N := 12) hx hb hts inX8 hown hK hP 0 rfl rfl 2 (by decide) lf19 (fun _ h9 => h9) rfl dX8_keep_21 ?_
  refine lv_aload_n hx hb dX8_keep_24 rfl (lv_at hl 0 rfl) ?_
  refine va_get (ci := 7) (v := .int 0) (C := RX8) (T := TX8) (N := 12) hx hb hts inX8 hown hK hP 0 rfl rfl 4 (by decide) lf30 (fun _ h9 => h9) rfl dX8_keep_25 ?_
  refine lv_iload_n hx hb dX8_keep_28 rfl (lv_at hl 2 rfl) ?_
  refine va_iast hx hb hK hP hD hS 2 1 rfl rfl (show ¬ (_ ∨ _) by decide) dX8_keep_29 (fun H locs hP hD hS => ?_)
  obtain ⟨fx2, hP, hD⟩ : ∃ fx2, va_P D vwCl [(h0, .inr (7, [.ref k0, .ref k1, .ref k2, .ref k3, .int 0, .int w6, .int 0, .int w7, .int w8, .int w9, .long w10, .null])), (k1, .inl (k 1, 1001, .inl (upd f1 0 0))), (k2, .inl (k 1, 1001, .inl fx2)), (k3, .inl (k 2, 1001, .inr (.inl f3)))] H ∧ va_D A [(h0, .inr (7, [.ref k0, .ref k1, .ref k2, .ref k3, .int 0, .int w6, .int 0, .int w7, .int w8, .int w9, .long w10, .null])), (k1, .inl (k 1, 1001, .inl (upd f1 0 0))), (k2, .inl (k 1, 1001, .inl fx2)), (k3, .inl (k 2, 1001, .inr (.inl f3)))] := ⟨_, hP, hD⟩
  refine lv_aload_n hx hb dX8_keep_30 rfl (lv_at hl 0 rfl) ?_
  refine va_get (ci := 7) (v := .ref k3) (C := RX8) (T := TX8) (N := 12) hx hb hts inX8 hown hK hP 0 rfl rfl 3 (by decide) lf22 (fun _ h9 => h9) rfl dX8_keep_31 ?_
  refine lv_aload_n hx hb dX8_keep_34 rfl (lv_at hl 0 rfl) ?_
  refine va_get (ci := 7) (v := .int 0) (C := RX8) (T := TX8) (N := 12) hx hb hts inX8 hown hK hP 0 rfl rfl 4 (by decide) lf30 (fun _ h9 => h9) rfl dX8_keep_35 ?_
  refine lv_lload_n hx hb dX8_keep_38 rfl (lv_at hl 3 rfl) ?_
  refine va_last hx hb hK hP hD hS 3 2 rfl rfl (show ¬ (_ ∨ _) by decide) dX8_keep_39 (fun H locs hP hD hS => ?_)
  obtain ⟨fx3, hP, hD⟩ : ∃ fx3, va_P D vwCl [(h0, .inr (7, [.ref k0, .ref k1, .ref k2, .ref k3, .int 0, .int w6, .int 0, .int w7, .int w8, .int w9, .long w10, .null])), (k1, .inl (k 1, 1001, .inl (upd f1 0 0))), (k2, .inl (k 1, 1001, .inl fx2)), (k3, .inl (k 2, 1001, .inr (.inl fx3)))] H ∧ va_D A [(h0, .inr (7, [.ref k0, .ref k1, .ref k2, .ref k3, .int 0, .int w6, .int 0, .int w7, .int w8, .int w9, .long w10, .null])), (k1, .inl (k 1, 1001, .inl (upd f1 0 0))), (k2, .inl (k 1, 1001, .inl fx2)), (k3, .inl (k 2, 1001, .inr (.inl fx3)))] := ⟨_, hP, hD⟩
  refine lv_aload_n hx hb dX8_keep_40 rfl (lv_at hl 0 rfl) ?_
  refine lv_dup hx hb dX8_keep_41 rfl ?_
  refine va_get (ci := 7) (v := .int 0) (C := RX8) (T := TX8) (N := 12) hx hb hts inX8 hown hK hP 0 rfl rfl 4 (by decide) lf30 (fun _ h9 => h9) rfl dX8_keep_42 ?_
  refine lv_iconst (v := 1) hx hb dX8_keep_45 (by decide) ?_
  refine lv_iadd hx hb dX8_keep_46 ?_
  refine p_topI (v := 1) (by decide) ?_
  refine va_put (ci := 7) (v := .int 1) (ty := .int) (C := RX8) (T := TX8) (N := 12) hx hb hts inX8 tyX8 tyX8_ok nmX8 hown hK hP hD hS 0 rfl rfl 4 (by decide) lf30 (fun _ h9 => h9) rfl (by decide +kernel) rfl rfl (Nat.le_of_ble_eq_true rfl) dX8_keep_47 (fun H locs hP hD hS => ?_)
  have hP : va_P D vwCl [(h0, .inr (7, [.ref k0, .ref k1, .ref k2, .ref k3, .int 1, .int w6, .int 0, .int w7, .int w8, .int w9, .long w10, .null])), (k1, .inl (k 1, 1001, .inl (upd f1 0 0))), (k2, .inl (k 1, 1001, .inl fx2)), (k3, .inl (k 2, 1001, .inr (.inl fx3)))] H := hP
  have hD : va_D A [(h0, .inr (7, [.ref k0, .ref k1, .ref k2, .ref k3, .int 1, .int w6, .int 0, .int w7, .int w8, .int w9, .long w10, .null])), (k1, .inl (k 1, 1001, .inl (upd f1 0 0))), (k2, .inl (k 1, 1001, .inl fx2)), (k3, .inl (k 2, 1001, .inr (.inl fx3)))] := hD
  exact hret _ _ _ _ _ _ (fx2, fx3) (by decide) (by decide) dX8_keep_50 trivial (hP.sub [0, 1, 2, 3] rfl) (hD.sub [0, 1, 2, 3] (by decide) rfl) hS
def pw_Scanner_advance : List Cond := .code yX8_advance cX8_advance 2 none :: ([.fieldLink RX8 15 "RiverVows$Scanner" "kinds" "[I", .fieldLink RX8 41 "RiverVows$Scanner" "next" "I", .fieldLink RX8 47 "RiverVows$Scanner" "kind" "I", .fieldLink RX8 19 "RiverVows$Scanner" "starts" "[I", .fieldLink RX8 50 "RiverVows$Scanner" "start" "I", .fieldLink RX8 22 "RiverVows$Scanner" "keys" "[J", .fieldLink RX8 53 "RiverVows$Scanner" "key" "J", .fieldLink RX8 57 "RiverVows$Scanner" "letters" "I", .fieldLink RX8 60 "RiverVows$Scanner" "word" "LRiverVows$Word;", .fieldLink RX8 30 "RiverVows$Scanner" "tokens" "I"] ++ wsX80)
set_option maxHeartbeats 4000000 in
set_option maxRecDepth 100000 in
theorem c_Scanner_advance (l : Launch) (D : va_G) (k : Nat → ClassId) (sz : Nat) (h0 : Nat) (k0 : Nat) (k1 : Nat) (k2 : Nat) (k3 : Nat) (w7 : Int32) (w8 : Int32) (w9 : Int32) (w10 : Int64) (f1 : Nat → Int32) (f2 : Nat → Int32) (f3 : Nat → Int64) (hk : f1 0 = 0) : pMv l yX8_advance pw_Scanner_advance ({ frames := 0, cells := 0, slots := 0, locals := 0 }) D k [.ref h0] [(h0, .inr (7, [.ref k0, .ref k1, .ref k2, .ref k3, .int 1, .int 0, .int 0, .int w7, .int w8, .int w9, .long w10, .null])), (k1, .inl (k 1, 1001, .inl f1)), (k2, .inl (k 1, 1001, .inl f2)), (k3, .inl (k 2, 1001, .inr (.inl f3)))] sz (S := Int32 × Int64) (fun u => True) (fun u => [(h0, .inr (7, [.ref k0, .ref k1, .ref k2, .ref k3, .int 1, .int 0, .int 0, .int 0, .int u.1, .int 0, .long u.2, .null])), (k1, .inl (k 1, 1001, .inl f1)), (k2, .inl (k 1, 1001, .inl f2)), (k3, .inl (k 2, 1001, .inr (.inl f3)))]) 0 0 := by
  refine p_ofv (cc := cX8_advance) (maxL := 2) (by decide) rfl (Nat.le_of_ble_eq_true rfl) ?_
  intro p e s m below meth c hx hb hml hown hts hin hK hN A hA hP hD hS Q hret ls hl
  have hl : lv_has ls 2 [(0, .ref h0)] := hl
  have lf15 := hts (.fieldLink RX8 15 "RiverVows$Scanner" "kinds" "[I") (by decide +kernel)
  have inX8 : ∀ w ∈ wsX80, w ∈ pw_Scanner_advance := by decide +kernel
  have lf41 := hts (.fieldLink RX8 41 "RiverVows$Scanner" "next" "I") (by decide +kernel)
  have lf47 := hts (.fieldLink RX8 47 "RiverVows$Scanner" "kind" "I") (by decide +kernel)
  have lf19 := hts (.fieldLink RX8 19 "RiverVows$Scanner" "starts" "[I") (by decide +kernel)
  have lf50 := hts (.fieldLink RX8 50 "RiverVows$Scanner" "start" "I") (by decide +kernel)
  have lf22 := hts (.fieldLink RX8 22 "RiverVows$Scanner" "keys" "[J") (by decide +kernel)
  have lf53 := hts (.fieldLink RX8 53 "RiverVows$Scanner" "key" "J") (by decide +kernel)
  have lf57 := hts (.fieldLink RX8 57 "RiverVows$Scanner" "letters" "I") (by decide +kernel)
  have lf60 := hts (.fieldLink RX8 60 "RiverVows$Scanner" "word" "LRiverVows$Word;") (by decide +kernel)
  have lf30 := hts (.fieldLink RX8 30 "RiverVows$Scanner" "tokens" "I") (by decide +kernel)
  refine lv_aload_n hx hb dX8_advance_0 rfl (lv_at hl 0 rfl) ?_
  refine lv_aload_n hx hb dX8_advance_1 rfl (lv_at hl 0 rfl) ?_
  refine va_get (ci := 7) (v := .ref k1) (C := RX8) (T := TX8) (N := 12) hx hb hts inX8 hown hK hP 0 rfl rfl 1 (by decide) lf15 (fun _ h9 => h9) rfl dX8_advance_2 ?_
  refine lv_aload_n hx hb dX8_advance_5 rfl (lv_at hl 0 rfl) ?_
  refine va_get (ci := 7) (v := .int 0) (C := RX8) (T := TX8) (N := 12) hx hb hts inX8 hown hK hP 0 rfl rfl 5 (by decide) lf41 (fun _ h9 => h9) rfl dX8_advance_6 ?_
  refine va_iald hx hb hK hP 1 1 rfl rfl (show ¬ (_ ∨ _) by decide) dX8_advance_9 ?_
  refine p_topI (v := 0) hk ?_
  refine va_put (ci := 7) (v := .int 0) (ty := .int) (C := RX8) (T := TX8) (N := 12) hx hb hts inX8 tyX8 tyX8_ok nmX8 hown hK hP hD hS 0 rfl rfl 7 (by decide) lf47 (fun _ h9 => h9) rfl (by decide +kernel) rfl rfl (Nat.le_of_ble_eq_true rfl) dX8_advance_10 (fun H locs hP hD hS => ?_)
  have hP : va_P D vwCl [(h0, .inr (7, [.ref k0, .ref k1, .ref k2, .ref k3, .int 1, .int 0, .int 0, .int 0, .int w8, .int w9, .long w10, .null])), (k1, .inl (k 1, 1001, .inl f1)), (k2, .inl (k 1, 1001, .inl f2)), (k3, .inl (k 2, 1001, .inr (.inl f3)))] H := hP
  have hD : va_D A [(h0, .inr (7, [.ref k0, .ref k1, .ref k2, .ref k3, .int 1, .int 0, .int 0, .int 0, .int w8, .int w9, .long w10, .null])), (k1, .inl (k 1, 1001, .inl f1)), (k2, .inl (k 1, 1001, .inl f2)), (k3, .inl (k 2, 1001, .inr (.inl f3)))] := hD
  refine lv_aload_n hx hb dX8_advance_13 rfl (lv_at hl 0 rfl) ?_
  refine lv_aload_n hx hb dX8_advance_14 rfl (lv_at hl 0 rfl) ?_
  refine va_get (ci := 7) (v := .ref k2) (C := RX8) (T := TX8) (N := 12) hx hb hts inX8 hown hK hP 0 rfl rfl 2 (by decide) lf19 (fun _ h9 => h9) rfl dX8_advance_15 ?_
  refine lv_aload_n hx hb dX8_advance_18 rfl (lv_at hl 0 rfl) ?_
  refine va_get (ci := 7) (v := .int 0) (C := RX8) (T := TX8) (N := 12) hx hb hts inX8 hown hK hP 0 rfl rfl 5 (by decide) lf41 (fun _ h9 => h9) rfl dX8_advance_19 ?_
  refine va_iald hx hb hK hP 2 1 rfl rfl (show ¬ (_ ∨ _) by decide) dX8_advance_22 ?_
  refine p_topI (v := (f2 0)) rfl ?_
  refine va_put (ci := 7) (v := .int (f2 0)) (ty := .int) (C := RX8) (T := TX8) (N := 12) hx hb hts inX8 tyX8 tyX8_ok nmX8 hown hK hP hD hS 0 rfl rfl 8 (by decide) lf50 (fun _ h9 => h9) rfl (by decide +kernel) rfl rfl (Nat.le_of_ble_eq_true rfl) dX8_advance_23 (fun H locs hP hD hS => ?_)
  have hP : va_P D vwCl [(h0, .inr (7, [.ref k0, .ref k1, .ref k2, .ref k3, .int 1, .int 0, .int 0, .int 0, .int (f2 0), .int w9, .long w10, .null])), (k1, .inl (k 1, 1001, .inl f1)), (k2, .inl (k 1, 1001, .inl f2)), (k3, .inl (k 2, 1001, .inr (.inl f3)))] H := hP
  have hD : va_D A [(h0, .inr (7, [.ref k0, .ref k1, .ref k2, .ref k3, .int 1, .int 0, .int 0, .int 0, .int (f2 0), .int w9, .long w10, .null])), (k1, .inl (k 1, 1001, .inl f1)), (k2, .inl (k 1, 1001, .inl f2)), (k3, .inl (k 2, 1001, .inr (.inl f3)))] := hD
  refine lv_aload_n hx hb dX8_advance_26 rfl (lv_at hl 0 rfl) ?_
  refine lv_aload_n hx hb dX8_advance_27 rfl (lv_at hl 0 rfl) ?_
  refine va_get (ci := 7) (v := .ref k3) (C := RX8) (T := TX8) (N := 12) hx hb hts inX8 hown hK hP 0 rfl rfl 3 (by decide) lf22 (fun _ h9 => h9) rfl dX8_advance_28 ?_
  refine lv_aload_n hx hb dX8_advance_31 rfl (lv_at hl 0 rfl) ?_
  refine va_get (ci := 7) (v := .int 0) (C := RX8) (T := TX8) (N := 12) hx hb hts inX8 hown hK hP 0 rfl rfl 5 (by decide) lf41 (fun _ h9 => h9) rfl dX8_advance_32 ?_
  refine va_lald hx hb hK hP 3 2 rfl rfl (show ¬ (_ ∨ _) by decide) dX8_advance_35 ?_
  refine p_topL (v := (f3 0)) rfl ?_
  refine va_put (ci := 7) (v := .long (f3 0)) (ty := .long) (C := RX8) (T := TX8) (N := 12) hx hb hts inX8 tyX8 tyX8_ok nmX8 hown hK hP hD hS 0 rfl rfl 10 (by decide) lf53 (fun _ h9 => h9) rfl (by decide +kernel) rfl rfl (Nat.le_of_ble_eq_true rfl) dX8_advance_36 (fun H locs hP hD hS => ?_)
  have hP : va_P D vwCl [(h0, .inr (7, [.ref k0, .ref k1, .ref k2, .ref k3, .int 1, .int 0, .int 0, .int 0, .int (f2 0), .int w9, .long (f3 0), .null])), (k1, .inl (k 1, 1001, .inl f1)), (k2, .inl (k 1, 1001, .inl f2)), (k3, .inl (k 2, 1001, .inr (.inl f3)))] H := hP
  have hD : va_D A [(h0, .inr (7, [.ref k0, .ref k1, .ref k2, .ref k3, .int 1, .int 0, .int 0, .int 0, .int (f2 0), .int w9, .long (f3 0), .null])), (k1, .inl (k 1, 1001, .inl f1)), (k2, .inl (k 1, 1001, .inl f2)), (k3, .inl (k 2, 1001, .inr (.inl f3)))] := hD
  refine lv_aload_n hx hb dX8_advance_39 rfl (lv_at hl 0 rfl) ?_
  refine lv_iconst (v := 0) hx hb dX8_advance_40 (by decide) ?_
  refine va_put (ci := 7) (v := .int 0) (ty := .int) (C := RX8) (T := TX8) (N := 12) hx hb hts inX8 tyX8 tyX8_ok nmX8 hown hK hP hD hS 0 rfl rfl 9 (by decide) lf57 (fun _ h9 => h9) rfl (by decide +kernel) rfl rfl (Nat.le_of_ble_eq_true rfl) dX8_advance_41 (fun H locs hP hD hS => ?_)
  have hP : va_P D vwCl [(h0, .inr (7, [.ref k0, .ref k1, .ref k2, .ref k3, .int 1, .int 0, .int 0, .int 0, .int (f2 0), .int 0, .long (f3 0), .null])), (k1, .inl (k 1, 1001, .inl f1)), (k2, .inl (k 1, 1001, .inl f2)), (k3, .inl (k 2, 1001, .inr (.inl f3)))] H := hP
  have hD : va_D A [(h0, .inr (7, [.ref k0, .ref k1, .ref k2, .ref k3, .int 1, .int 0, .int 0, .int 0, .int (f2 0), .int 0, .long (f3 0), .null])), (k1, .inl (k 1, 1001, .inl f1)), (k2, .inl (k 1, 1001, .inl f2)), (k3, .inl (k 2, 1001, .inr (.inl f3)))] := hD
  refine lv_iconst (v := 0) hx hb dX8_advance_44 (by decide) ?_
  refine lv_istore_n (lv' := [(1, .int 0), (0, .ref h0)]) hx hb dX8_advance_45 rfl hl (by decide) rfl (fun ls hl => ?_)
  refine lv_iload_n hx hb dX8_advance_46 rfl (lv_at hl 0 rfl) ?_
  refine lv_bipush (v := 8) hx hb dX8_advance_47 (by decide) ?_
  refine lv_icmp_ge (tgt := 93) hx hb dX8_advance_49 (by decide) (fun h9 => absurd h9 (by decide)) (fun cx1 => ?_)
  refine lv_aload_n hx hb dX8_advance_52 rfl (lv_at hl 1 rfl) ?_
  refine va_get (ci := 7) (v := .int 0) (C := RX8) (T := TX8) (N := 12) hx hb hts inX8 hown hK hP 0 rfl rfl 7 (by decide) lf47 (fun _ h9 => h9) rfl dX8_advance_53 ?_
  refine lv_iconst (v := 2) hx hb dX8_advance_56 (by decide) ?_
  refine lv_icmp_ne (tgt := 93) hx hb dX8_advance_57 (by decide) (fun cx2 => ?_) (fun h9 => absurd h9 (by decide))
  refine lv_aload_n hx hb dX8_advance_93 rfl (lv_at hl 1 rfl) ?_
  refine lv_null hx hb dX8_advance_94 ?_
  refine va_put (ci := 7) (v := .null) (ty := (.object "RiverVows$Word")) (C := RX8) (T := TX8) (N := 12) hx hb hts inX8 tyX8 tyX8_ok nmX8 hown hK hP hD hS 0 rfl rfl 11 (by decide) lf60 (fun _ h9 => h9) rfl (by decide +kernel) rfl rfl (Nat.le_of_ble_eq_true rfl) dX8_advance_95 (fun H locs hP hD hS => ?_)
  have hP : va_P D vwCl [(h0, .inr (7, [.ref k0, .ref k1, .ref k2, .ref k3, .int 1, .int 0, .int 0, .int 0, .int (f2 0), .int 0, .long (f3 0), .null])), (k1, .inl (k 1, 1001, .inl f1)), (k2, .inl (k 1, 1001, .inl f2)), (k3, .inl (k 2, 1001, .inr (.inl f3)))] H := hP
  have hD : va_D A [(h0, .inr (7, [.ref k0, .ref k1, .ref k2, .ref k3, .int 1, .int 0, .int 0, .int 0, .int (f2 0), .int 0, .long (f3 0), .null])), (k1, .inl (k 1, 1001, .inl f1)), (k2, .inl (k 1, 1001, .inl f2)), (k3, .inl (k 2, 1001, .inr (.inl f3)))] := hD
  refine lv_iconst (v := 0) hx hb dX8_advance_98 (by decide) ?_
  refine lv_istore_n (lv' := [(1, .int 0), (0, .ref h0)]) hx hb dX8_advance_99 rfl hl (by decide) rfl (fun ls hl => ?_)
  refine lv_aload_n hx hb dX8_advance_100 rfl (lv_at hl 1 rfl) ?_
  refine va_get (ci := 7) (v := .int 0) (C := RX8) (T := TX8) (N := 12) hx hb hts inX8 hown hK hP 0 rfl rfl 7 (by decide) lf47 (fun _ h9 => h9) rfl dX8_advance_101 ?_
  refine lv_iconst (v := 2) hx hb dX8_advance_104 (by decide) ?_
  refine lv_icmp_ne (tgt := 147) hx hb dX8_advance_105 (by decide) (fun cx3 => ?_) (fun h9 => absurd h9 (by decide))
  refine lv_aload_n hx hb dX8_advance_147 rfl (lv_at hl 1 rfl) ?_
  refine va_get (ci := 7) (v := .int 0) (C := RX8) (T := TX8) (N := 12) hx hb hts inX8 hown hK hP 0 rfl rfl 5 (by decide) lf41 (fun _ h9 => h9) rfl dX8_advance_148 ?_
  refine lv_aload_n hx hb dX8_advance_151 rfl (lv_at hl 1 rfl) ?_
  refine va_get (ci := 7) (v := .int 1) (C := RX8) (T := TX8) (N := 12) hx hb hts inX8 hown hK hP 0 rfl rfl 4 (by decide) lf30 (fun _ h9 => h9) rfl dX8_advance_152 ?_
  refine lv_iconst (v := 1) hx hb dX8_advance_155 (by decide) ?_
  refine lv_isub hx hb dX8_advance_156 ?_
  refine p_topI (v := 0) (by decide) ?_
  refine lv_icmp_ge (tgt := 170) hx hb dX8_advance_157 (by decide) (fun cx4 => ?_) (fun h9 => absurd (by decide) h9)
  exact hret _ _ _ _ _ _ ((f2 0), (f3 0)) (by decide) (by decide) dX8_advance_170 trivial (hP.sub [0, 1, 2, 3] rfl) (hD.sub [0, 1, 2, 3] (by decide) rfl) hS
def pw_Scanner_begin : List Cond := .code yX8_begin cX8_begin 3 none :: ([.fieldLink RX8 30 "RiverVows$Scanner" "tokens" "I", .fieldLink RX8 26 "RiverVows$Scanner" "length" "I", .code yX8_keep cX8_keep 5 none, .fieldLink RX8 15 "RiverVows$Scanner" "kinds" "[I", .fieldLink RX8 19 "RiverVows$Scanner" "starts" "[I", .fieldLink RX8 22 "RiverVows$Scanner" "keys" "[J", .methodLink RX8 37 yX8_keep, .instanceMethod yX8_keep, .selects RX8 yX8_keep yX8_keep, .initialized RX8, .fieldLink RX8 41 "RiverVows$Scanner" "next" "I", .code yX8_advance cX8_advance 2 none, .fieldLink RX8 47 "RiverVows$Scanner" "kind" "I", .fieldLink RX8 50 "RiverVows$Scanner" "start" "I", .fieldLink RX8 53 "RiverVows$Scanner" "key" "J", .fieldLink RX8 57 "RiverVows$Scanner" "letters" "I", .fieldLink RX8 60 "RiverVows$Scanner" "word" "LRiverVows$Word;", .methodLink RX8 44 yX8_advance, .instanceMethod yX8_advance, .selects RX8 yX8_advance yX8_advance] ++ wsX80)
set_option maxRecDepth 20000 in
theorem pg_Scanner_begin_0 : GoodIn pw_Scanner_begin (wsV RX8 37 RX8 yX8_keep pw_Scanner_keep) := goodIn_sub (by decide +kernel) (by decide +kernel)
set_option maxRecDepth 20000 in
theorem pg_Scanner_begin_1 : GoodIn pw_Scanner_begin (wsV RX8 44 RX8 yX8_advance pw_Scanner_advance) := goodIn_sub (by decide +kernel) (by decide +kernel)
set_option maxHeartbeats 4000000 in
set_option maxRecDepth 100000 in
theorem c_Scanner_begin (l : Launch) (D : va_G) (k : Nat → ClassId) (sz : Nat) (h0 : Nat) (k0 : Nat) (k1 : Nat) (k2 : Nat) (k3 : Nat) (w5 : Int32) (w6 : Int32) (w7 : Int32) (w8 : Int32) (w9 : Int32) (w10 : Int64) (f1 : Nat → Int32) (f2 : Nat → Int32) (f3 : Nat → Int64)  : pMv l yX8_begin pw_Scanner_begin ({ frames := 1, cells := 0, slots := 0, locals := 24 }) D k [.ref h0] [(h0, .inr (7, [.ref k0, .ref k1, .ref k2, .ref k3, .int w5, .int w6, .int 0, .int w7, .int w8, .int w9, .long w10, .null])), (k1, .inl (k 1, 1001, .inl f1)), (k2, .inl (k 1, 1001, .inl f2)), (k3, .inl (k 2, 1001, .inr (.inl f3)))] sz (S := Int32 × Int64 × (Nat → Int32) × (Nat → Int32) × (Nat → Int64)) (fun u => True) (fun u => [(h0, .inr (7, [.ref k0, .ref k1, .ref k2, .ref k3, .int 1, .int 0, .int 0, .int 0, .int u.1, .int 0, .long u.2.1, .null])), (k1, .inl (k 1, 1001, .inl u.2.2.1)), (k2, .inl (k 1, 1001, .inl u.2.2.2.1)), (k3, .inl (k 2, 1001, .inr (.inl u.2.2.2.2)))]) 0 0 := by
  refine p_ofv (cc := cX8_begin) (maxL := 3) (by decide) rfl (Nat.le_of_ble_eq_true rfl) ?_
  intro p e s m below meth c hx hb hml hown hts hin hK hN A hA hP hD hS Q hret ls hl
  have hl : lv_has ls 3 [(0, .ref h0)] := hl
  have lf30 := hts (.fieldLink RX8 30 "RiverVows$Scanner" "tokens" "I") (by decide +kernel)
  have inX8 : ∀ w ∈ wsX80, w ∈ pw_Scanner_begin := by decide +kernel
  have lf26 := hts (.fieldLink RX8 26 "RiverVows$Scanner" "length" "I") (by decide +kernel)
  have lf41 := hts (.fieldLink RX8 41 "RiverVows$Scanner" "next" "I") (by decide +kernel)
  refine lv_aload_n hx hb dX8_begin_0 rfl (lv_at hl 0 rfl) ?_
  refine lv_iconst (v := 0) hx hb dX8_begin_1 (by decide) ?_
  refine va_put (ci := 7) (v := .int 0) (ty := .int) (C := RX8) (T := TX8) (N := 12) hx hb hts inX8 tyX8 tyX8_ok nmX8 hown hK hP hD hS 0 rfl rfl 4 (by decide) lf30 (fun _ h9 => h9) rfl (by decide +kernel) rfl rfl (Nat.le_of_ble_eq_true rfl) dX8_begin_2 (fun H locs hP hD hS => ?_)
  have hP : va_P D vwCl [(h0, .inr (7, [.ref k0, .ref k1, .ref k2, .ref k3, .int 0, .int w6, .int 0, .int w7, .int w8, .int w9, .long w10, .null])), (k1, .inl (k 1, 1001, .inl f1)), (k2, .inl (k 1, 1001, .inl f2)), (k3, .inl (k 2, 1001, .inr (.inl f3)))] H := hP
  have hD : va_D A [(h0, .inr (7, [.ref k0, .ref k1, .ref k2, .ref k3, .int 0, .int w6, .int 0, .int w7, .int w8, .int w9, .long w10, .null])), (k1, .inl (k 1, 1001, .inl f1)), (k2, .inl (k 1, 1001, .inl f2)), (k3, .inl (k 2, 1001, .inr (.inl f3)))] := hD
  refine lv_iconst (v := 0) hx hb dX8_begin_5 (by decide) ?_
  refine lv_istore_n (lv' := [(1, .int 0), (0, .ref h0)]) hx hb dX8_begin_6 rfl hl (by decide) rfl (fun ls hl => ?_)
  refine lv_iconst (v := 0) hx hb dX8_begin_7 (by decide) ?_
  refine lv_istore_n (lv' := [(2, .int 0), (1, .int 0), (0, .ref h0)]) hx hb dX8_begin_8 rfl hl (by decide) rfl (fun ls hl => ?_)
  refine lv_iload_n hx hb dX8_begin_9 rfl (lv_at hl 0 rfl) ?_
  refine lv_aload_n hx hb dX8_begin_10 rfl (lv_at hl 2 rfl) ?_
  refine va_get (ci := 7) (v := .int 0) (C := RX8) (T := TX8) (N := 12) hx hb hts inX8 hown hK hP 0 rfl rfl 6 (by decide) lf26 (fun _ h9 => h9) rfl dX8_begin_11 ?_
  refine lv_icmp_ge (tgt := 56) hx hb dX8_begin_14 (by decide) (fun cx1 => ?_) (fun h9 => absurd (by decide) h9)
  refine lv_aload_n hx hb dX8_begin_56 rfl (lv_at hl 2 rfl) ?_
  refine lv_iconst (v := 0) hx hb dX8_begin_57 (by decide) ?_
  refine lv_aload_n hx hb dX8_begin_58 rfl (lv_at hl 2 rfl) ?_
  refine va_get (ci := 7) (v := .int 0) (C := RX8) (T := TX8) (N := 12) hx hb hts inX8 hown hK hP 0 rfl rfl 6 (by decide) lf26 (fun _ h9 => h9) rfl dX8_begin_59 ?_
  refine lv_lconst (v := 0) hx hb dX8_begin_62 (by decide) ?_
  refine p_jv (wr := []) (va_runV (As := [.int 0, .int 0, .long 0]) (rest := []) ⟨hx, hb, hml, hown, hts⟩ (c_Scanner_keep l D k _ h0 k0 k1 k2 k3 w6 w7 w8 w9 w10 f1 f2 f3) (cwV 3 hts pg_Scanner_begin_0 rfl rfl rfl (by decide +kernel) ⟨Nat.le_of_ble_eq_true rfl, Nat.le_of_ble_eq_true rfl⟩) (pV hK hN hP hD [0, 1, 2, 3] rfl (by decide) rfl 0 rfl rfl) rfl rfl hl.1 rfl (lv_room (Nat.le_of_ble_eq_true rfl)) dX8_begin_63 ⟨by decide, by decide⟩) hP hD hS hA [0, 1, 2, 3] [] rfl rfl (by decide) (by decide) (fun ux2 H locs wx3 hP hD hS => ?_)
  obtain ⟨b2_x5, b3_x6⟩ := ux2
  have hP : va_P D vwCl [(h0, .inr (7, [.ref k0, .ref k1, .ref k2, .ref k3, .int 1, .int w6, .int 0, .int w7, .int w8, .int w9, .long w10, .null])), (k1, .inl (k 1, 1001, .inl (upd f1 0 0))), (k2, .inl (k 1, 1001, .inl b2_x5)), (k3, .inl (k 2, 1001, .inr (.inl b3_x6)))] H := hP
  have hD : va_D A [(h0, .inr (7, [.ref k0, .ref k1, .ref k2, .ref k3, .int 1, .int w6, .int 0, .int w7, .int w8, .int w9, .long w10, .null])), (k1, .inl (k 1, 1001, .inl (upd f1 0 0))), (k2, .inl (k 1, 1001, .inl b2_x5)), (k3, .inl (k 2, 1001, .inr (.inl b3_x6)))] := hD
  refine lv_aload_n hx hb dX8_begin_66 rfl (lv_at hl 2 rfl) ?_
  refine lv_iconst (v := 0) hx hb dX8_begin_67 (by decide) ?_
  refine va_put (ci := 7) (v := .int 0) (ty := .int) (C := RX8) (T := TX8) (N := 12) hx hb hts inX8 tyX8 tyX8_ok nmX8 hown hK hP hD hS 0 rfl rfl 5 (by decide) lf41 (fun _ h9 => h9) rfl (by decide +kernel) rfl rfl (Nat.le_of_ble_eq_true rfl) dX8_begin_68 (fun H locs hP hD hS => ?_)
  have hP : va_P D vwCl [(h0, .inr (7, [.ref k0, .ref k1, .ref k2, .ref k3, .int 1, .int 0, .int 0, .int w7, .int w8, .int w9, .long w10, .null])), (k1, .inl (k 1, 1001, .inl (upd f1 0 0))), (k2, .inl (k 1, 1001, .inl b2_x5)), (k3, .inl (k 2, 1001, .inr (.inl b3_x6)))] H := hP
  have hD : va_D A [(h0, .inr (7, [.ref k0, .ref k1, .ref k2, .ref k3, .int 1, .int 0, .int 0, .int w7, .int w8, .int w9, .long w10, .null])), (k1, .inl (k 1, 1001, .inl (upd f1 0 0))), (k2, .inl (k 1, 1001, .inl b2_x5)), (k3, .inl (k 2, 1001, .inr (.inl b3_x6)))] := hD
  refine lv_aload_n hx hb dX8_begin_71 rfl (lv_at hl 2 rfl) ?_
  refine p_jv (wr := []) (va_runV (As := []) (rest := []) ⟨hx, hb, hml, hown, hts⟩ (c_Scanner_advance l D k _ h0 k0 k1 k2 k3 w7 w8 w9 w10 (upd f1 0 0) b2_x5 b3_x6 rfl) (cwV 0 hts pg_Scanner_begin_1 rfl rfl rfl (by decide +kernel) ⟨Nat.le_of_ble_eq_true rfl, Nat.le_of_ble_eq_true rfl⟩) (pV hK hN hP hD [0, 1, 2, 3] rfl (by decide) rfl 0 rfl rfl) rfl rfl hl.1 rfl (lv_room (Nat.le_of_ble_eq_true rfl)) dX8_begin_72 ⟨by decide, by decide⟩) hP hD hS hA [0, 1, 2, 3] [] rfl rfl (by decide) (by decide) (fun ux7 H locs wx8 hP hD hS => ?_)
  obtain ⟨st_x10, ky_x11⟩ := ux7
  have hP : va_P D vwCl [(h0, .inr (7, [.ref k0, .ref k1, .ref k2, .ref k3, .int 1, .int 0, .int 0, .int 0, .int st_x10, .int 0, .long ky_x11, .null])), (k1, .inl (k 1, 1001, .inl (upd f1 0 0))), (k2, .inl (k 1, 1001, .inl b2_x5)), (k3, .inl (k 2, 1001, .inr (.inl b3_x6)))] H := hP
  have hD : va_D A [(h0, .inr (7, [.ref k0, .ref k1, .ref k2, .ref k3, .int 1, .int 0, .int 0, .int 0, .int st_x10, .int 0, .long ky_x11, .null])), (k1, .inl (k 1, 1001, .inl (upd f1 0 0))), (k2, .inl (k 1, 1001, .inl b2_x5)), (k3, .inl (k 2, 1001, .inr (.inl b3_x6)))] := hD
  exact hret _ _ _ _ _ _ (st_x10, ky_x11, (upd f1 0 0), b2_x5, b3_x6) (by decide) (by decide) dX8_begin_75 trivial (hP.sub [0, 1, 2, 3] rfl) (hD.sub [0, 1, 2, 3] (by decide) rfl) hS
def pw_Scanner_empty : List Cond := .code yX8_empty cX8_empty 1 none :: ([.fieldLink RX8 26 "RiverVows$Scanner" "length" "I"] ++ wsX80)
set_option maxHeartbeats 4000000 in
set_option maxRecDepth 100000 in
theorem c_Scanner_empty (l : Launch) (D : va_G) (k : Nat → ClassId) (sz : Nat) (h0 : Nat) (v0 : Value) (v1 : Value) (v2 : Value) (v3 : Value) (v4 : Value) (v5 : Value) (v6 : Value) (v7 : Value) (v8 : Value) (v9 : Value) (v10 : Value) (v11 : Value)  : pMv l yX8_empty pw_Scanner_empty ({ frames := 0, cells := 0, slots := 0, locals := 0 }) D k [.ref h0] [(h0, .inr (7, [v0, v1, v2, v3, v4, v5, v6, v7, v8, v9, v10, v11]))] sz (S := Unit) (fun u => True) (fun u => [(h0, .inr (7, [v0, v1, v2, v3, v4, v5, .int 0, v7, v8, v9, v10, v11]))]) 0 0 := by
  refine p_ofv (cc := cX8_empty) (maxL := 1) (by decide) rfl (Nat.le_of_ble_eq_true rfl) ?_
  intro p e s m below meth c hx hb hml hown hts hin hK hN A hA hP hD hS Q hret ls hl
  have hl : lv_has ls 1 [(0, .ref h0)] := hl
  have lf26 := hts (.fieldLink RX8 26 "RiverVows$Scanner" "length" "I") (by decide +kernel)
  have inX8 : ∀ w ∈ wsX80, w ∈ pw_Scanner_empty := by decide +kernel
  refine lv_aload_n hx hb dX8_empty_0 rfl (lv_at hl 0 rfl) ?_
  refine lv_iconst (v := 0) hx hb dX8_empty_1 (by decide) ?_
  refine va_put (ci := 7) (v := .int 0) (ty := .int) (C := RX8) (T := TX8) (N := 12) hx hb hts inX8 tyX8 tyX8_ok nmX8 hown hK hP hD hS 0 rfl rfl 6 (by decide) lf26 (fun _ h9 => h9) rfl (by decide +kernel) rfl rfl (Nat.le_of_ble_eq_true rfl) dX8_empty_2 (fun H locs hP hD hS => ?_)
  have hP : va_P D vwCl [(h0, .inr (7, [v0, v1, v2, v3, v4, v5, .int 0, v7, v8, v9, v10, v11]))] H := hP
  have hD : va_D A [(h0, .inr (7, [v0, v1, v2, v3, v4, v5, .int 0, v7, v8, v9, v10, v11]))] := hD
  exact hret _ _ _ _ _ _ () (by decide) (by decide) dX8_empty_5 trivial (hP.sub [0] rfl) (hD.sub [0] (by decide) rfl) hS
def pw_Standing_takeBonds : List Cond := .code yX9_takeBonds cX9_takeBonds 2 none :: ([.fieldLink RX9 9 "RiverVows$Standing" "husband" "[I", .methodLink RX9 43 arraycopyName, .native arraycopyName, .static arraycopyName, .initialized "java/lang/System", .fieldLink RX9 15 "RiverVows$Standing" "owed" "[I", .fieldLink RX9 18 "RiverVows$Standing" "silt" "[I", .fieldLink RX9 37 "RiverVows$Standing" "passed" "I"] ++ wsX90)
set_option maxHeartbeats 4000000 in
set_option maxRecDepth 100000 in
theorem c_Standing_takeBonds (l : Launch) (D : va_G) (k : Nat → ClassId) (sz : Nat) (h0 : Nat) (a0 : Nat) (a1 : Nat) (a2 : Nat) (a3 : Nat) (a4 : Nat) (a5 : Nat) (a6 : Nat) (h9b : Nat) (b0 : Nat) (b1 : Nat) (b2 : Nat) (b3 : Nat) (b4 : Nat) (b5 : Nat) (b6 : Nat) (va7 : Value) (va8 : Value) (va9 : Value) (va10 : Value) (ps : Int32) (vb8 : Value) (vb9 : Value) (vb10 : Value) (fa0 : Nat → Int32) (fa1 : Nat → Int32) (fa2 : Nat → Int32) (fb0 : Nat → Int32) (fb1 : Nat → Int32) (fb2 : Nat → Int32)  : pMv l yX9_takeBonds pw_Standing_takeBonds ({ frames := 1, cells := 0, slots := 0, locals := 60 }) D k [.ref h0, .ref h9b] [(h0, .inr (8, [.ref a0, .ref a1, .ref a2, .ref a3, .ref a4, .ref a5, .ref a6, va7, va8, va9, va10])), (a0, .inl (k 1, 6, .inl fa0)), (a1, .inl (k 1, 6, .inl fa1)), (a2, .inl (k 1, 6, .inl fa2)), (h9b, .inr (8, [.ref b0, .ref b1, .ref b2, .ref b3, .ref b4, .ref b5, .ref b6, .int ps, vb8, vb9, vb10])), (b0, .inl (k 1, 6, .inl fb0)), (b1, .inl (k 1, 6, .inl fb1)), (b2, .inl (k 1, 6, .inl fb2))] sz (S := (Nat → Int32) × (Nat → Int32) × (Nat → Int32)) (fun u => True) (fun u => [(h0, .inr (8, [.ref a0, .ref a1, .ref a2, .ref a3, .ref a4, .ref a5, .ref a6, .int ps, va8, va9, va10])), (a0, .inl (k 1, 6, .inl u.1)), (a1, .inl (k 1, 6, .inl u.2.1)), (a2, .inl (k 1, 6, .inl u.2.2)), (h9b, .inr (8, [.ref b0, .ref b1, .ref b2, .ref b3, .ref b4, .ref b5, .ref b6, .int ps, vb8, vb9, vb10])), (b0, .inl (k 1, 6, .inl fb0)), (b1, .inl (k 1, 6, .inl fb1)), (b2, .inl (k 1, 6, .inl fb2))]) 0 0 := by
  refine p_ofv (cc := cX9_takeBonds) (maxL := 2) (by decide) rfl (Nat.le_of_ble_eq_true rfl) ?_
  intro p e s m below meth c hx hb hml hown hts hin hK hN A hA hP hD hS Q hret ls hl
  have hl : lv_has ls 2 [(0, .ref h0), (1, .ref h9b)] := hl
  have lf9 := hts (.fieldLink RX9 9 "RiverVows$Standing" "husband" "[I") (by decide +kernel)
  have inX9 : ∀ w ∈ wsX90, w ∈ pw_Standing_takeBonds := by decide +kernel
  have ml43 := hts (.methodLink RX9 43 arraycopyName) (by decide +kernel)
  have acn := hts (.native arraycopyName) (by decide +kernel)
  have acs := hts (.static arraycopyName) (by decide +kernel)
  have aci := hts (.initialized "java/lang/System") (by decide +kernel)
  have lf15 := hts (.fieldLink RX9 15 "RiverVows$Standing" "owed" "[I") (by decide +kernel)
  have lf18 := hts (.fieldLink RX9 18 "RiverVows$Standing" "silt" "[I") (by decide +kernel)
  have lf37 := hts (.fieldLink RX9 37 "RiverVows$Standing" "passed" "I") (by decide +kernel)
  refine lv_aload_n hx hb dX9_takeBonds_0 rfl (lv_at hl 1 rfl) ?_
  refine va_get (ci := 8) (v := .ref b0) (C := RX9) (T := TX9) (N := 11) hx hb hts inX9 hown hK hP 4 rfl rfl 0 (by decide) lf9 (fun _ h9 => h9) rfl dX9_takeBonds_1 ?_
  refine lv_iconst (v := 0) hx hb dX9_takeBonds_4 (by decide) ?_
  refine lv_aload_n hx hb dX9_takeBonds_5 rfl (lv_at hl 0 rfl) ?_
  refine va_get (ci := 8) (v := .ref a0) (C := RX9) (T := TX9) (N := 11) hx hb hts inX9 hown hK hP 0 rfl rfl 0 (by decide) lf9 (fun _ h9 => h9) rfl dX9_takeBonds_6 ?_
  refine lv_iconst (v := 0) hx hb dX9_takeBonds_9 (by decide) ?_
  refine lv_bipush (v := 6) hx hb dX9_takeBonds_10 (by decide) ?_
  refine va_copyi hx hb (hml.trans hl.1.symm) hown ml43 acn acs aci hK hP hD hS 5 1 1 1 rfl rfl rfl rfl rfl (by decide) (by decide) (by decide) (by decide) (by decide) (fun _ _ => rfl) (Nat.le_of_ble_eq_true rfl) (Nat.le_of_ble_eq_true rfl) dX9_takeBonds_12 (fun H locs hP hD hS => ?_)
  obtain ⟨fx1, hP, hD⟩ : ∃ fx1, va_P D vwCl [(h0, .inr (8, [.ref a0, .ref a1, .ref a2, .ref a3, .ref a4, .ref a5, .ref a6, va7, va8, va9, va10])), (a0, .inl (k 1, 6, .inl fx1)), (a1, .inl (k 1, 6, .inl fa1)), (a2, .inl (k 1, 6, .inl fa2)), (h9b, .inr (8, [.ref b0, .ref b1, .ref b2, .ref b3, .ref b4, .ref b5, .ref b6, .int ps, vb8, vb9, vb10])), (b0, .inl (k 1, 6, .inl fb0)), (b1, .inl (k 1, 6, .inl fb1)), (b2, .inl (k 1, 6, .inl fb2))] H ∧ va_D A [(h0, .inr (8, [.ref a0, .ref a1, .ref a2, .ref a3, .ref a4, .ref a5, .ref a6, va7, va8, va9, va10])), (a0, .inl (k 1, 6, .inl fx1)), (a1, .inl (k 1, 6, .inl fa1)), (a2, .inl (k 1, 6, .inl fa2)), (h9b, .inr (8, [.ref b0, .ref b1, .ref b2, .ref b3, .ref b4, .ref b5, .ref b6, .int ps, vb8, vb9, vb10])), (b0, .inl (k 1, 6, .inl fb0)), (b1, .inl (k 1, 6, .inl fb1)), (b2, .inl (k 1, 6, .inl fb2))] := ⟨_, hP, hD⟩
  refine lv_aload_n hx hb dX9_takeBonds_15 rfl (lv_at hl 1 rfl) ?_
  refine va_get (ci := 8) (v := .ref b1) (C := RX9) (T := TX9) (N := 11) hx hb hts inX9 hown hK hP 4 rfl rfl 1 (by decide) lf15 (fun _ h9 => h9) rfl dX9_takeBonds_16 ?_
  refine lv_iconst (v := 0) hx hb dX9_takeBonds_19 (by decide) ?_
  refine lv_aload_n hx hb dX9_takeBonds_20 rfl (lv_at hl 0 rfl) ?_
  refine va_get (ci := 8) (v := .ref a1) (C := RX9) (T := TX9) (N := 11) hx hb hts inX9 hown hK hP 0 rfl rfl 1 (by decide) lf15 (fun _ h9 => h9) rfl dX9_takeBonds_21 ?_
  refine lv_iconst (v := 0) hx hb dX9_takeBonds_24 (by decide) ?_
  refine lv_bipush (v := 6) hx hb dX9_takeBonds_25 (by decide) ?_
  refine va_copyi hx hb (hml.trans hl.1.symm) hown ml43 acn acs aci hK hP hD hS 6 2 1 1 rfl rfl rfl rfl rfl (by decide) (by decide) (by decide) (by decide) (by decide) (fun _ _ => rfl) (Nat.le_of_ble_eq_true rfl) (Nat.le_of_ble_eq_true rfl) dX9_takeBonds_27 (fun H locs hP hD hS => ?_)
  obtain ⟨fx2, hP, hD⟩ : ∃ fx2, va_P D vwCl [(h0, .inr (8, [.ref a0, .ref a1, .ref a2, .ref a3, .ref a4, .ref a5, .ref a6, va7, va8, va9, va10])), (a0, .inl (k 1, 6, .inl fx1)), (a1, .inl (k 1, 6, .inl fx2)), (a2, .inl (k 1, 6, .inl fa2)), (h9b, .inr (8, [.ref b0, .ref b1, .ref b2, .ref b3, .ref b4, .ref b5, .ref b6, .int ps, vb8, vb9, vb10])), (b0, .inl (k 1, 6, .inl fb0)), (b1, .inl (k 1, 6, .inl fb1)), (b2, .inl (k 1, 6, .inl fb2))] H ∧ va_D A [(h0, .inr (8, [.ref a0, .ref a1, .ref a2, .ref a3, .ref a4, .ref a5, .ref a6, va7, va8, va9, va10])), (a0, .inl (k 1, 6, .inl fx1)), (a1, .inl (k 1, 6, .inl fx2)), (a2, .inl (k 1, 6, .inl fa2)), (h9b, .inr (8, [.ref b0, .ref b1, .ref b2, .ref b3, .ref b4, .ref b5, .ref b6, .int ps, vb8, vb9, vb10])), (b0, .inl (k 1, 6, .inl fb0)), (b1, .inl (k 1, 6, .inl fb1)), (b2, .inl (k 1, 6, .inl fb2))] := ⟨_, hP, hD⟩
  refine lv_aload_n hx hb dX9_takeBonds_30 rfl (lv_at hl 1 rfl) ?_
  refine va_get (ci := 8) (v := .ref b2) (C := RX9) (T := TX9) (N := 11) hx hb hts inX9 hown hK hP 4 rfl rfl 2 (by decide) lf18 (fun _ h9 => h9) rfl dX9_takeBonds_31 ?_
  refine lv_iconst (v := 0) hx hb dX9_takeBonds_34 (by decide) ?_
  refine lv_aload_n hx hb dX9_takeBonds_35 rfl (lv_at hl 0 rfl) ?_
  refine va_get (ci := 8) (v := .ref a2) (C := RX9) (T := TX9) (N := 11) hx hb hts inX9 hown hK hP 0 rfl rfl 2 (by decide) lf18 (fun _ h9 => h9) rfl dX9_takeBonds_36 ?_
  refine lv_iconst (v := 0) hx hb dX9_takeBonds_39 (by decide) ?_
  refine lv_bipush (v := 6) hx hb dX9_takeBonds_40 (by decide) ?_
  refine va_copyi hx hb (hml.trans hl.1.symm) hown ml43 acn acs aci hK hP hD hS 7 3 1 1 rfl rfl rfl rfl rfl (by decide) (by decide) (by decide) (by decide) (by decide) (fun _ _ => rfl) (Nat.le_of_ble_eq_true rfl) (Nat.le_of_ble_eq_true rfl) dX9_takeBonds_42 (fun H locs hP hD hS => ?_)
  obtain ⟨fx3, hP, hD⟩ : ∃ fx3, va_P D vwCl [(h0, .inr (8, [.ref a0, .ref a1, .ref a2, .ref a3, .ref a4, .ref a5, .ref a6, va7, va8, va9, va10])), (a0, .inl (k 1, 6, .inl fx1)), (a1, .inl (k 1, 6, .inl fx2)), (a2, .inl (k 1, 6, .inl fx3)), (h9b, .inr (8, [.ref b0, .ref b1, .ref b2, .ref b3, .ref b4, .ref b5, .ref b6, .int ps, vb8, vb9, vb10])), (b0, .inl (k 1, 6, .inl fb0)), (b1, .inl (k 1, 6, .inl fb1)), (b2, .inl (k 1, 6, .inl fb2))] H ∧ va_D A [(h0, .inr (8, [.ref a0, .ref a1, .ref a2, .ref a3, .ref a4, .ref a5, .ref a6, va7, va8, va9, va10])), (a0, .inl (k 1, 6, .inl fx1)), (a1, .inl (k 1, 6, .inl fx2)), (a2, .inl (k 1, 6, .inl fx3)), (h9b, .inr (8, [.ref b0, .ref b1, .ref b2, .ref b3, .ref b4, .ref b5, .ref b6, .int ps, vb8, vb9, vb10])), (b0, .inl (k 1, 6, .inl fb0)), (b1, .inl (k 1, 6, .inl fb1)), (b2, .inl (k 1, 6, .inl fb2))] := ⟨_, hP, hD⟩
  refine lv_aload_n hx hb dX9_takeBonds_45 rfl (lv_at hl 0 rfl) ?_
  refine lv_aload_n hx hb dX9_takeBonds_46 rfl (lv_at hl 1 rfl) ?_
  refine va_get (ci := 8) (v := .int ps) (C := RX9) (T := TX9) (N := 11) hx hb hts inX9 hown hK hP 4 rfl rfl 7 (by decide) lf37 (fun _ h9 => h9) rfl dX9_takeBonds_47 ?_
  refine va_put (ci := 8) (v := .int ps) (ty := .int) (C := RX9) (T := TX9) (N := 11) hx hb hts inX9 tyX9 tyX9_ok nmX9 hown hK hP hD hS 0 rfl rfl 7 (by decide) lf37 (fun _ h9 => h9) rfl (by decide +kernel) rfl rfl (Nat.le_of_ble_eq_true rfl) dX9_takeBonds_50 (fun H locs hP hD hS => ?_)
  have hP : va_P D vwCl [(h0, .inr (8, [.ref a0, .ref a1, .ref a2, .ref a3, .ref a4, .ref a5, .ref a6, .int ps, va8, va9, va10])), (a0, .inl (k 1, 6, .inl fx1)), (a1, .inl (k 1, 6, .inl fx2)), (a2, .inl (k 1, 6, .inl fx3)), (h9b, .inr (8, [.ref b0, .ref b1, .ref b2, .ref b3, .ref b4, .ref b5, .ref b6, .int ps, vb8, vb9, vb10])), (b0, .inl (k 1, 6, .inl fb0)), (b1, .inl (k 1, 6, .inl fb1)), (b2, .inl (k 1, 6, .inl fb2))] H := hP
  have hD : va_D A [(h0, .inr (8, [.ref a0, .ref a1, .ref a2, .ref a3, .ref a4, .ref a5, .ref a6, .int ps, va8, va9, va10])), (a0, .inl (k 1, 6, .inl fx1)), (a1, .inl (k 1, 6, .inl fx2)), (a2, .inl (k 1, 6, .inl fx3)), (h9b, .inr (8, [.ref b0, .ref b1, .ref b2, .ref b3, .ref b4, .ref b5, .ref b6, .int ps, vb8, vb9, vb10])), (b0, .inl (k 1, 6, .inl fb0)), (b1, .inl (k 1, 6, .inl fb1)), (b2, .inl (k 1, 6, .inl fb2))] := hD
  exact hret _ _ _ _ _ _ (fx1, fx2, fx3) (by decide) (by decide) dX9_takeBonds_53 trivial (hP.sub [0, 1, 2, 3, 4, 5, 6, 7] rfl) (hD.sub [0, 1, 2, 3, 4, 5, 6, 7] (by decide) rfl) hS
def pw_Standing_takeAll : List Cond := .code yX9_takeAll cX9_takeAll 2 none :: ([.code yX9_takeBonds cX9_takeBonds 2 none, .fieldLink RX9 9 "RiverVows$Standing" "husband" "[I", .methodLink RX9 43 arraycopyName, .native arraycopyName, .static arraycopyName, .initialized "java/lang/System", .fieldLink RX9 15 "RiverVows$Standing" "owed" "[I", .fieldLink RX9 18 "RiverVows$Standing" "silt" "[I", .fieldLink RX9 37 "RiverVows$Standing" "passed" "I", .methodLink RX9 49 yX9_takeBonds, .instanceMethod yX9_takeBonds, .selects RX9 yX9_takeBonds yX9_takeBonds, .initialized RX9, .fieldLink RX9 21 "RiverVows$Standing" "wants" "[I", .fieldLink RX9 24 "RiverVows$Standing" "toldRiver" "[I", .fieldLink RX9 27 "RiverVows$Standing" "toldSeason" "[I", .fieldLink RX9 30 "RiverVows$Standing" "toldFlow" "[I", .fieldLink RX9 33 "RiverVows$Standing" "heirs" "I", .fieldLink RX9 40 "RiverVows$Standing" "told" "I"] ++ wsX90)
set_option maxRecDepth 20000 in
theorem pg_Standing_takeAll_0 : GoodIn pw_Standing_takeAll (wsV RX9 49 RX9 yX9_takeBonds pw_Standing_takeBonds) := goodIn_sub (by decide +kernel) (by decide +kernel)
set_option maxHeartbeats 4000000 in
set_option maxRecDepth 100000 in
theorem c_Standing_takeAll (l : Launch) (D : va_G) (k : Nat → ClassId) (sz : Nat) (h0 : Nat) (a0 : Nat) (a1 : Nat) (a2 : Nat) (a3 : Nat) (a4 : Nat) (a5 : Nat) (a6 : Nat) (h9b : Nat) (b0 : Nat) (b1 : Nat) (b2 : Nat) (b3 : Nat) (b4 : Nat) (b5 : Nat) (b6 : Nat) (va7 : Value) (va8 : Value) (va9 : Value) (va10 : Value) (ps : Int32) (hs : Int32) (tl : Int32) (vb10 : Value) (fa0 : Nat → Int32) (fa1 : Nat → Int32) (fa2 : Nat → Int32) (fa3 : Nat → Int32) (fa4 : Nat → Int32) (fa5 : Nat → Int32) (fa6 : Nat → Int32) (fb0 : Nat → Int32) (fb1 : Nat → Int32) (fb2 : Nat → Int32) (fb3 : Nat → Int32) (fb4 : Nat → Int32) (fb5 : Nat → Int32) (fb6 : Nat → Int32)  : pMv l yX9_takeAll pw_Standing_takeAll ({ frames := 2, cells := 0, slots := 0, locals := 81 }) D k [.ref h0, .ref h9b] [(h0, .inr (8, [.ref a0, .ref a1, .ref a2, .ref a3, .ref a4, .ref a5, .ref a6, va7, va8, va9, va10])), (a0, .inl (k 1, 6, .inl fa0)), (a1, .inl (k 1, 6, .inl fa1)), (a2, .inl (k 1, 6, .inl fa2)), (a3, .inl (k 1, 6, .inl fa3)), (a4, .inl (k 1, 10, .inl fa4)), (a5, .inl (k 1, 10, .inl fa5)), (a6, .inl (k 1, 10, .inl fa6)), (h9b, .inr (8, [.ref b0, .ref b1, .ref b2, .ref b3, .ref b4, .ref b5, .ref b6, .int ps, .int hs, .int tl, vb10])), (b0, .inl (k 1, 6, .inl fb0)), (b1, .inl (k 1, 6, .inl fb1)), (b2, .inl (k 1, 6, .inl fb2)), (b3, .inl (k 1, 6, .inl fb3)), (b4, .inl (k 1, 10, .inl fb4)), (b5, .inl (k 1, 10, .inl fb5)), (b6, .inl (k 1, 10, .inl fb6))] sz (S := (Nat → Int32) × (Nat → Int32) × (Nat → Int32) × (Nat → Int32) × (Nat → Int32) × (Nat → Int32) × (Nat → Int32)) (fun u => True) (fun u => [(h0, .inr (8, [.ref a0, .ref a1, .ref a2, .ref a3, .ref a4, .ref a5, .ref a6, .int ps, .int hs, .int tl, va10])), (a0, .inl (k 1, 6, .inl u.1)), (a1, .inl (k 1, 6, .inl u.2.1)), (a2, .inl (k 1, 6, .inl u.2.2.1)), (a3, .inl (k 1, 6, .inl u.2.2.2.1)), (a4, .inl (k 1, 10, .inl u.2.2.2.2.1)), (a5, .inl (k 1, 10, .inl u.2.2.2.2.2.1)), (a6, .inl (k 1, 10, .inl u.2.2.2.2.2.2))]) 0 0 := by
  refine p_ofv (cc := cX9_takeAll) (maxL := 2) (by decide) rfl (Nat.le_of_ble_eq_true rfl) ?_
  intro p e s m below meth c hx hb hml hown hts hin hK hN A hA hP hD hS Q hret ls hl
  have hl : lv_has ls 2 [(0, .ref h0), (1, .ref h9b)] := hl
  have lf21 := hts (.fieldLink RX9 21 "RiverVows$Standing" "wants" "[I") (by decide +kernel)
  have inX9 : ∀ w ∈ wsX90, w ∈ pw_Standing_takeAll := by decide +kernel
  have ml43 := hts (.methodLink RX9 43 arraycopyName) (by decide +kernel)
  have acn := hts (.native arraycopyName) (by decide +kernel)
  have acs := hts (.static arraycopyName) (by decide +kernel)
  have aci := hts (.initialized "java/lang/System") (by decide +kernel)
  have lf24 := hts (.fieldLink RX9 24 "RiverVows$Standing" "toldRiver" "[I") (by decide +kernel)
  have lf27 := hts (.fieldLink RX9 27 "RiverVows$Standing" "toldSeason" "[I") (by decide +kernel)
  have lf30 := hts (.fieldLink RX9 30 "RiverVows$Standing" "toldFlow" "[I") (by decide +kernel)
  have lf33 := hts (.fieldLink RX9 33 "RiverVows$Standing" "heirs" "I") (by decide +kernel)
  have lf40 := hts (.fieldLink RX9 40 "RiverVows$Standing" "told" "I") (by decide +kernel)
  refine lv_aload_n hx hb dX9_takeAll_0 rfl (lv_at hl 0 rfl) ?_
  refine lv_aload_n hx hb dX9_takeAll_1 rfl (lv_at hl 1 rfl) ?_
  refine p_jv (wr := [(a3, .inl (k 1, 6, .inl fa3)), (a4, .inl (k 1, 10, .inl fa4)), (a5, .inl (k 1, 10, .inl fa5)), (a6, .inl (k 1, 10, .inl fa6)), (b3, .inl (k 1, 6, .inl fb3)), (b4, .inl (k 1, 10, .inl fb4)), (b5, .inl (k 1, 10, .inl fb5)), (b6, .inl (k 1, 10, .inl fb6))]) (va_runV (As := [.ref h9b]) (rest := []) ⟨hx, hb, hml, hown, hts⟩ (c_Standing_takeBonds l D k _ h0 a0 a1 a2 a3 a4 a5 a6 h9b b0 b1 b2 b3 b4 b5 b6 va7 va8 va9 va10 ps (.int hs) (.int tl) vb10 fa0 fa1 fa2 fb0 fb1 fb2) (cwV 1 hts pg_Standing_takeAll_0 rfl rfl rfl (by decide +kernel) ⟨Nat.le_of_ble_eq_true rfl, Nat.le_of_ble_eq_true rfl⟩) (pV hK hN hP hD [0, 1, 2, 3, 8, 9, 10, 11] rfl (by decide) rfl 0 rfl rfl) rfl rfl hl.1 rfl (lv_room (Nat.le_of_ble_eq_true rfl)) dX9_takeAll_2 ⟨by decide, by decide⟩) hP hD hS hA [0, 1, 2, 3, 8, 9, 10, 11] [4, 5, 6, 7, 12, 13, 14, 15] rfl rfl (by decide) (by decide) (fun ux1 H locs wx2 hP hD hS => ?_)
  obtain ⟨ga0_x4, ga1_x5, ga2_x6⟩ := ux1
  have hP : va_P D vwCl [(a3, .inl (k 1, 6, .inl fa3)), (a4, .inl (k 1, 10, .inl fa4)), (a5, .inl (k 1, 10, .inl fa5)), (a6, .inl (k 1, 10, .inl fa6)), (b3, .inl (k 1, 6, .inl fb3)), (b4, .inl (k 1, 10, .inl fb4)), (b5, .inl (k 1, 10, .inl fb5)), (b6, .inl (k 1, 10, .inl fb6)), (h0, .inr (8, [.ref a0, .ref a1, .ref a2, .ref a3, .ref a4, .ref a5, .ref a6, .int ps, va8, va9, va10])), (a0, .inl (k 1, 6, .inl ga0_x4)), (a1, .inl (k 1, 6, .inl ga1_x5)), (a2, .inl (k 1, 6, .inl ga2_x6)), (h9b, .inr (8, [.ref b0, .ref b1, .ref b2, .ref b3, .ref b4, .ref b5, .ref b6, .int ps, .int hs, .int tl, vb10])), (b0, .inl (k 1, 6, .inl fb0)), (b1, .inl (k 1, 6, .inl fb1)), (b2, .inl (k 1, 6, .inl fb2))] H := hP
  have hD : va_D A [(a3, .inl (k 1, 6, .inl fa3)), (a4, .inl (k 1, 10, .inl fa4)), (a5, .inl (k 1, 10, .inl fa5)), (a6, .inl (k 1, 10, .inl fa6)), (b3, .inl (k 1, 6, .inl fb3)), (b4, .inl (k 1, 10, .inl fb4)), (b5, .inl (k 1, 10, .inl fb5)), (b6, .inl (k 1, 10, .inl fb6)), (h0, .inr (8, [.ref a0, .ref a1, .ref a2, .ref a3, .ref a4, .ref a5, .ref a6, .int ps, va8, va9, va10])), (a0, .inl (k 1, 6, .inl ga0_x4)), (a1, .inl (k 1, 6, .inl ga1_x5)), (a2, .inl (k 1, 6, .inl ga2_x6)), (h9b, .inr (8, [.ref b0, .ref b1, .ref b2, .ref b3, .ref b4, .ref b5, .ref b6, .int ps, .int hs, .int tl, vb10])), (b0, .inl (k 1, 6, .inl fb0)), (b1, .inl (k 1, 6, .inl fb1)), (b2, .inl (k 1, 6, .inl fb2))] := hD
  refine lv_aload_n hx hb dX9_takeAll_5 rfl (lv_at hl 1 rfl) ?_
  refine va_get (ci := 8) (v := .ref b3) (C := RX9) (T := TX9) (N := 11) hx hb hts inX9 hown hK hP 12 rfl rfl 3 (by decide) lf21 (fun _ h9 => h9) rfl dX9_takeAll_6 ?_
  refine lv_iconst (v := 0) hx hb dX9_takeAll_9 (by decide) ?_
  refine lv_aload_n hx hb dX9_takeAll_10 rfl (lv_at hl 0 rfl) ?_
  refine va_get (ci := 8) (v := .ref a3) (C := RX9) (T := TX9) (N := 11) hx hb hts inX9 hown hK hP 8 rfl rfl 3 (by decide) lf21 (fun _ h9 => h9) rfl dX9_takeAll_11 ?_
  refine lv_iconst (v := 0) hx hb dX9_takeAll_14 (by decide) ?_
  refine lv_bipush (v := 6) hx hb dX9_takeAll_15 (by decide) ?_
  refine va_copyi hx hb (hml.trans hl.1.symm) hown ml43 acn acs aci hK hP hD hS 4 0 1 1 rfl rfl rfl rfl rfl (by decide) (by decide) (by decide) (by decide) (by decide) (fun _ _ => rfl) (Nat.le_of_ble_eq_true rfl) (Nat.le_of_ble_eq_true rfl) dX9_takeAll_17 (fun H locs hP hD hS => ?_)
  obtain ⟨fx7, hP, hD⟩ : ∃ fx7, va_P D vwCl [(a3, .inl (k 1, 6, .inl fx7)), (a4, .inl (k 1, 10, .inl fa4)), (a5, .inl (k 1, 10, .inl fa5)), (a6, .inl (k 1, 10, .inl fa6)), (b3, .inl (k 1, 6, .inl fb3)), (b4, .inl (k 1, 10, .inl fb4)), (b5, .inl (k 1, 10, .inl fb5)), (b6, .inl (k 1, 10, .inl fb6)), (h0, .inr (8, [.ref a0, .ref a1, .ref a2, .ref a3, .ref a4, .ref a5, .ref a6, .int ps, va8, va9, va10])), (a0, .inl (k 1, 6, .inl ga0_x4)), (a1, .inl (k 1, 6, .inl ga1_x5)), (a2, .inl (k 1, 6, .inl ga2_x6)), (h9b, .inr (8, [.ref b0, .ref b1, .ref b2, .ref b3, .ref b4, .ref b5, .ref b6, .int ps, .int hs, .int tl, vb10])), (b0, .inl (k 1, 6, .inl fb0)), (b1, .inl (k 1, 6, .inl fb1)), (b2, .inl (k 1, 6, .inl fb2))] H ∧ va_D A [(a3, .inl (k 1, 6, .inl fx7)), (a4, .inl (k 1, 10, .inl fa4)), (a5, .inl (k 1, 10, .inl fa5)), (a6, .inl (k 1, 10, .inl fa6)), (b3, .inl (k 1, 6, .inl fb3)), (b4, .inl (k 1, 10, .inl fb4)), (b5, .inl (k 1, 10, .inl fb5)), (b6, .inl (k 1, 10, .inl fb6)), (h0, .inr (8, [.ref a0, .ref a1, .ref a2, .ref a3, .ref a4, .ref a5, .ref a6, .int ps, va8, va9, va10])), (a0, .inl (k 1, 6, .inl ga0_x4)), (a1, .inl (k 1, 6, .inl ga1_x5)), (a2, .inl (k 1, 6, .inl ga2_x6)), (h9b, .inr (8, [.ref b0, .ref b1, .ref b2, .ref b3, .ref b4, .ref b5, .ref b6, .int ps, .int hs, .int tl, vb10])), (b0, .inl (k 1, 6, .inl fb0)), (b1, .inl (k 1, 6, .inl fb1)), (b2, .inl (k 1, 6, .inl fb2))] := ⟨_, hP, hD⟩
  refine lv_aload_n hx hb dX9_takeAll_20 rfl (lv_at hl 1 rfl) ?_
  refine va_get (ci := 8) (v := .ref b4) (C := RX9) (T := TX9) (N := 11) hx hb hts inX9 hown hK hP 12 rfl rfl 4 (by decide) lf24 (fun _ h9 => h9) rfl dX9_takeAll_21 ?_
  refine lv_iconst (v := 0) hx hb dX9_takeAll_24 (by decide) ?_
  refine lv_aload_n hx hb dX9_takeAll_25 rfl (lv_at hl 0 rfl) ?_
  refine va_get (ci := 8) (v := .ref a4) (C := RX9) (T := TX9) (N := 11) hx hb hts inX9 hown hK hP 8 rfl rfl 4 (by decide) lf24 (fun _ h9 => h9) rfl dX9_takeAll_26 ?_
  refine lv_iconst (v := 0) hx hb dX9_takeAll_29 (by decide) ?_
  refine lv_bipush (v := 10) hx hb dX9_takeAll_30 (by decide) ?_
  refine va_copyi hx hb (hml.trans hl.1.symm) hown ml43 acn acs aci hK hP hD hS 5 1 1 1 rfl rfl rfl rfl rfl (by decide) (by decide) (by decide) (by decide) (by decide) (fun _ _ => rfl) (Nat.le_of_ble_eq_true rfl) (Nat.le_of_ble_eq_true rfl) dX9_takeAll_32 (fun H locs hP hD hS => ?_)
  obtain ⟨fx8, hP, hD⟩ : ∃ fx8, va_P D vwCl [(a3, .inl (k 1, 6, .inl fx7)), (a4, .inl (k 1, 10, .inl fx8)), (a5, .inl (k 1, 10, .inl fa5)), (a6, .inl (k 1, 10, .inl fa6)), (b3, .inl (k 1, 6, .inl fb3)), (b4, .inl (k 1, 10, .inl fb4)), (b5, .inl (k 1, 10, .inl fb5)), (b6, .inl (k 1, 10, .inl fb6)), (h0, .inr (8, [.ref a0, .ref a1, .ref a2, .ref a3, .ref a4, .ref a5, .ref a6, .int ps, va8, va9, va10])), (a0, .inl (k 1, 6, .inl ga0_x4)), (a1, .inl (k 1, 6, .inl ga1_x5)), (a2, .inl (k 1, 6, .inl ga2_x6)), (h9b, .inr (8, [.ref b0, .ref b1, .ref b2, .ref b3, .ref b4, .ref b5, .ref b6, .int ps, .int hs, .int tl, vb10])), (b0, .inl (k 1, 6, .inl fb0)), (b1, .inl (k 1, 6, .inl fb1)), (b2, .inl (k 1, 6, .inl fb2))] H ∧ va_D A [(a3, .inl (k 1, 6, .inl fx7)), (a4, .inl (k 1, 10, .inl fx8)), (a5, .inl (k 1, 10, .inl fa5)), (a6, .inl (k 1, 10, .inl fa6)), (b3, .inl (k 1, 6, .inl fb3)), (b4, .inl (k 1, 10, .inl fb4)), (b5, .inl (k 1, 10, .inl fb5)), (b6, .inl (k 1, 10, .inl fb6)), (h0, .inr (8, [.ref a0, .ref a1, .ref a2, .ref a3, .ref a4, .ref a5, .ref a6, .int ps, va8, va9, va10])), (a0, .inl (k 1, 6, .inl ga0_x4)), (a1, .inl (k 1, 6, .inl ga1_x5)), (a2, .inl (k 1, 6, .inl ga2_x6)), (h9b, .inr (8, [.ref b0, .ref b1, .ref b2, .ref b3, .ref b4, .ref b5, .ref b6, .int ps, .int hs, .int tl, vb10])), (b0, .inl (k 1, 6, .inl fb0)), (b1, .inl (k 1, 6, .inl fb1)), (b2, .inl (k 1, 6, .inl fb2))] := ⟨_, hP, hD⟩
  refine lv_aload_n hx hb dX9_takeAll_35 rfl (lv_at hl 1 rfl) ?_
  refine va_get (ci := 8) (v := .ref b5) (C := RX9) (T := TX9) (N := 11) hx hb hts inX9 hown hK hP 12 rfl rfl 5 (by decide) lf27 (fun _ h9 => h9) rfl dX9_takeAll_36 ?_
  refine lv_iconst (v := 0) hx hb dX9_takeAll_39 (by decide) ?_
  refine lv_aload_n hx hb dX9_takeAll_40 rfl (lv_at hl 0 rfl) ?_
  refine va_get (ci := 8) (v := .ref a5) (C := RX9) (T := TX9) (N := 11) hx hb hts inX9 hown hK hP 8 rfl rfl 5 (by decide) lf27 (fun _ h9 => h9) rfl dX9_takeAll_41 ?_
  refine lv_iconst (v := 0) hx hb dX9_takeAll_44 (by decide) ?_
  refine lv_bipush (v := 10) hx hb dX9_takeAll_45 (by decide) ?_
  refine va_copyi hx hb (hml.trans hl.1.symm) hown ml43 acn acs aci hK hP hD hS 6 2 1 1 rfl rfl rfl rfl rfl (by decide) (by decide) (by decide) (by decide) (by decide) (fun _ _ => rfl) (Nat.le_of_ble_eq_true rfl) (Nat.le_of_ble_eq_true rfl) dX9_takeAll_47 (fun H locs hP hD hS => ?_)
  obtain ⟨fx9, hP, hD⟩ : ∃ fx9, va_P D vwCl [(a3, .inl (k 1, 6, .inl fx7)), (a4, .inl (k 1, 10, .inl fx8)), (a5, .inl (k 1, 10, .inl fx9)), (a6, .inl (k 1, 10, .inl fa6)), (b3, .inl (k 1, 6, .inl fb3)), (b4, .inl (k 1, 10, .inl fb4)), (b5, .inl (k 1, 10, .inl fb5)), (b6, .inl (k 1, 10, .inl fb6)), (h0, .inr (8, [.ref a0, .ref a1, .ref a2, .ref a3, .ref a4, .ref a5, .ref a6, .int ps, va8, va9, va10])), (a0, .inl (k 1, 6, .inl ga0_x4)), (a1, .inl (k 1, 6, .inl ga1_x5)), (a2, .inl (k 1, 6, .inl ga2_x6)), (h9b, .inr (8, [.ref b0, .ref b1, .ref b2, .ref b3, .ref b4, .ref b5, .ref b6, .int ps, .int hs, .int tl, vb10])), (b0, .inl (k 1, 6, .inl fb0)), (b1, .inl (k 1, 6, .inl fb1)), (b2, .inl (k 1, 6, .inl fb2))] H ∧ va_D A [(a3, .inl (k 1, 6, .inl fx7)), (a4, .inl (k 1, 10, .inl fx8)), (a5, .inl (k 1, 10, .inl fx9)), (a6, .inl (k 1, 10, .inl fa6)), (b3, .inl (k 1, 6, .inl fb3)), (b4, .inl (k 1, 10, .inl fb4)), (b5, .inl (k 1, 10, .inl fb5)), (b6, .inl (k 1, 10, .inl fb6)), (h0, .inr (8, [.ref a0, .ref a1, .ref a2, .ref a3, .ref a4, .ref a5, .ref a6, .int ps, va8, va9, va10])), (a0, .inl (k 1, 6, .inl ga0_x4)), (a1, .inl (k 1, 6, .inl ga1_x5)), (a2, .inl (k 1, 6, .inl ga2_x6)), (h9b, .inr (8, [.ref b0, .ref b1, .ref b2, .ref b3, .ref b4, .ref b5, .ref b6, .int ps, .int hs, .int tl, vb10])), (b0, .inl (k 1, 6, .inl fb0)), (b1, .inl (k 1, 6, .inl fb1)), (b2, .inl (k 1, 6, .inl fb2))] := ⟨_, hP, hD⟩
  refine lv_aload_n hx hb dX9_takeAll_50 rfl (lv_at hl 1 rfl) ?_
  refine va_get (ci := 8) (v := .ref b6) (C := RX9) (T := TX9) (N := 11) hx hb hts inX9 hown hK hP 12 rfl rfl 6 (by decide) lf30 (fun _ h9 => h9) rfl dX9_takeAll_51 ?_
  refine lv_iconst (v := 0) hx hb dX9_takeAll_54 (by decide) ?_
  refine lv_aload_n hx hb dX9_takeAll_55 rfl (lv_at hl 0 rfl) ?_
  refine va_get (ci := 8) (v := .ref a6) (C := RX9) (T := TX9) (N := 11) hx hb hts inX9 hown hK hP 8 rfl rfl 6 (by decide) lf30 (fun _ h9 => h9) rfl dX9_takeAll_56 ?_
  refine lv_iconst (v := 0) hx hb dX9_takeAll_59 (by decide) ?_
  refine lv_bipush (v := 10) hx hb dX9_takeAll_60 (by decide) ?_
  refine va_copyi hx hb (hml.trans hl.1.symm) hown ml43 acn acs aci hK hP hD hS 7 3 1 1 rfl rfl rfl rfl rfl (by decide) (by decide) (by decide) (by decide) (by decide) (fun _ _ => rfl) (Nat.le_of_ble_eq_true rfl) (Nat.le_of_ble_eq_true rfl) dX9_takeAll_62 (fun H locs hP hD hS => ?_)
  obtain ⟨fx10, hP, hD⟩ : ∃ fx10, va_P D vwCl [(a3, .inl (k 1, 6, .inl fx7)), (a4, .inl (k 1, 10, .inl fx8)), (a5, .inl (k 1, 10, .inl fx9)), (a6, .inl (k 1, 10, .inl fx10)), (b3, .inl (k 1, 6, .inl fb3)), (b4, .inl (k 1, 10, .inl fb4)), (b5, .inl (k 1, 10, .inl fb5)), (b6, .inl (k 1, 10, .inl fb6)), (h0, .inr (8, [.ref a0, .ref a1, .ref a2, .ref a3, .ref a4, .ref a5, .ref a6, .int ps, va8, va9, va10])), (a0, .inl (k 1, 6, .inl ga0_x4)), (a1, .inl (k 1, 6, .inl ga1_x5)), (a2, .inl (k 1, 6, .inl ga2_x6)), (h9b, .inr (8, [.ref b0, .ref b1, .ref b2, .ref b3, .ref b4, .ref b5, .ref b6, .int ps, .int hs, .int tl, vb10])), (b0, .inl (k 1, 6, .inl fb0)), (b1, .inl (k 1, 6, .inl fb1)), (b2, .inl (k 1, 6, .inl fb2))] H ∧ va_D A [(a3, .inl (k 1, 6, .inl fx7)), (a4, .inl (k 1, 10, .inl fx8)), (a5, .inl (k 1, 10, .inl fx9)), (a6, .inl (k 1, 10, .inl fx10)), (b3, .inl (k 1, 6, .inl fb3)), (b4, .inl (k 1, 10, .inl fb4)), (b5, .inl (k 1, 10, .inl fb5)), (b6, .inl (k 1, 10, .inl fb6)), (h0, .inr (8, [.ref a0, .ref a1, .ref a2, .ref a3, .ref a4, .ref a5, .ref a6, .int ps, va8, va9, va10])), (a0, .inl (k 1, 6, .inl ga0_x4)), (a1, .inl (k 1, 6, .inl ga1_x5)), (a2, .inl (k 1, 6, .inl ga2_x6)), (h9b, .inr (8, [.ref b0, .ref b1, .ref b2, .ref b3, .ref b4, .ref b5, .ref b6, .int ps, .int hs, .int tl, vb10])), (b0, .inl (k 1, 6, .inl fb0)), (b1, .inl (k 1, 6, .inl fb1)), (b2, .inl (k 1, 6, .inl fb2))] := ⟨_, hP, hD⟩
  refine lv_aload_n hx hb dX9_takeAll_65 rfl (lv_at hl 0 rfl) ?_
  refine lv_aload_n hx hb dX9_takeAll_66 rfl (lv_at hl 1 rfl) ?_
  refine va_get (ci := 8) (v := .int hs) (C := RX9) (T := TX9) (N := 11) hx hb hts inX9 hown hK hP 12 rfl rfl 8 (by decide) lf33 (fun _ h9 => h9) rfl dX9_takeAll_67 ?_
  refine va_put (ci := 8) (v := .int hs) (ty := .int) (C := RX9) (T := TX9) (N := 11) hx hb hts inX9 tyX9 tyX9_ok nmX9 hown hK hP hD hS 8 rfl rfl 8 (by decide) lf33 (fun _ h9 => h9) rfl (by decide +kernel) rfl rfl (Nat.le_of_ble_eq_true rfl) dX9_takeAll_70 (fun H locs hP hD hS => ?_)
  have hP : va_P D vwCl [(a3, .inl (k 1, 6, .inl fx7)), (a4, .inl (k 1, 10, .inl fx8)), (a5, .inl (k 1, 10, .inl fx9)), (a6, .inl (k 1, 10, .inl fx10)), (b3, .inl (k 1, 6, .inl fb3)), (b4, .inl (k 1, 10, .inl fb4)), (b5, .inl (k 1, 10, .inl fb5)), (b6, .inl (k 1, 10, .inl fb6)), (h0, .inr (8, [.ref a0, .ref a1, .ref a2, .ref a3, .ref a4, .ref a5, .ref a6, .int ps, .int hs, va9, va10])), (a0, .inl (k 1, 6, .inl ga0_x4)), (a1, .inl (k 1, 6, .inl ga1_x5)), (a2, .inl (k 1, 6, .inl ga2_x6)), (h9b, .inr (8, [.ref b0, .ref b1, .ref b2, .ref b3, .ref b4, .ref b5, .ref b6, .int ps, .int hs, .int tl, vb10])), (b0, .inl (k 1, 6, .inl fb0)), (b1, .inl (k 1, 6, .inl fb1)), (b2, .inl (k 1, 6, .inl fb2))] H := hP
  have hD : va_D A [(a3, .inl (k 1, 6, .inl fx7)), (a4, .inl (k 1, 10, .inl fx8)), (a5, .inl (k 1, 10, .inl fx9)), (a6, .inl (k 1, 10, .inl fx10)), (b3, .inl (k 1, 6, .inl fb3)), (b4, .inl (k 1, 10, .inl fb4)), (b5, .inl (k 1, 10, .inl fb5)), (b6, .inl (k 1, 10, .inl fb6)), (h0, .inr (8, [.ref a0, .ref a1, .ref a2, .ref a3, .ref a4, .ref a5, .ref a6, .int ps, .int hs, va9, va10])), (a0, .inl (k 1, 6, .inl ga0_x4)), (a1, .inl (k 1, 6, .inl ga1_x5)), (a2, .inl (k 1, 6, .inl ga2_x6)), (h9b, .inr (8, [.ref b0, .ref b1, .ref b2, .ref b3, .ref b4, .ref b5, .ref b6, .int ps, .int hs, .int tl, vb10])), (b0, .inl (k 1, 6, .inl fb0)), (b1, .inl (k 1, 6, .inl fb1)), (b2, .inl (k 1, 6, .inl fb2))] := hD
  refine lv_aload_n hx hb dX9_takeAll_73 rfl (lv_at hl 0 rfl) ?_
  refine lv_aload_n hx hb dX9_takeAll_74 rfl (lv_at hl 1 rfl) ?_
  refine va_get (ci := 8) (v := .int tl) (C := RX9) (T := TX9) (N := 11) hx hb hts inX9 hown hK hP 12 rfl rfl 9 (by decide) lf40 (fun _ h9 => h9) rfl dX9_takeAll_75 ?_
  refine va_put (ci := 8) (v := .int tl) (ty := .int) (C := RX9) (T := TX9) (N := 11) hx hb hts inX9 tyX9 tyX9_ok nmX9 hown hK hP hD hS 8 rfl rfl 9 (by decide) lf40 (fun _ h9 => h9) rfl (by decide +kernel) rfl rfl (Nat.le_of_ble_eq_true rfl) dX9_takeAll_78 (fun H locs hP hD hS => ?_)
  have hP : va_P D vwCl [(a3, .inl (k 1, 6, .inl fx7)), (a4, .inl (k 1, 10, .inl fx8)), (a5, .inl (k 1, 10, .inl fx9)), (a6, .inl (k 1, 10, .inl fx10)), (b3, .inl (k 1, 6, .inl fb3)), (b4, .inl (k 1, 10, .inl fb4)), (b5, .inl (k 1, 10, .inl fb5)), (b6, .inl (k 1, 10, .inl fb6)), (h0, .inr (8, [.ref a0, .ref a1, .ref a2, .ref a3, .ref a4, .ref a5, .ref a6, .int ps, .int hs, .int tl, va10])), (a0, .inl (k 1, 6, .inl ga0_x4)), (a1, .inl (k 1, 6, .inl ga1_x5)), (a2, .inl (k 1, 6, .inl ga2_x6)), (h9b, .inr (8, [.ref b0, .ref b1, .ref b2, .ref b3, .ref b4, .ref b5, .ref b6, .int ps, .int hs, .int tl, vb10])), (b0, .inl (k 1, 6, .inl fb0)), (b1, .inl (k 1, 6, .inl fb1)), (b2, .inl (k 1, 6, .inl fb2))] H := hP
  have hD : va_D A [(a3, .inl (k 1, 6, .inl fx7)), (a4, .inl (k 1, 10, .inl fx8)), (a5, .inl (k 1, 10, .inl fx9)), (a6, .inl (k 1, 10, .inl fx10)), (b3, .inl (k 1, 6, .inl fb3)), (b4, .inl (k 1, 10, .inl fb4)), (b5, .inl (k 1, 10, .inl fb5)), (b6, .inl (k 1, 10, .inl fb6)), (h0, .inr (8, [.ref a0, .ref a1, .ref a2, .ref a3, .ref a4, .ref a5, .ref a6, .int ps, .int hs, .int tl, va10])), (a0, .inl (k 1, 6, .inl ga0_x4)), (a1, .inl (k 1, 6, .inl ga1_x5)), (a2, .inl (k 1, 6, .inl ga2_x6)), (h9b, .inr (8, [.ref b0, .ref b1, .ref b2, .ref b3, .ref b4, .ref b5, .ref b6, .int ps, .int hs, .int tl, vb10])), (b0, .inl (k 1, 6, .inl fb0)), (b1, .inl (k 1, 6, .inl fb1)), (b2, .inl (k 1, 6, .inl fb2))] := hD
  exact hret _ _ _ _ _ _ (ga0_x4, ga1_x5, ga2_x6, fx7, fx8, fx9, fx10) (by decide) (by decide) dX9_takeAll_81 trivial (hP.sub [8, 9, 10, 11, 0, 1, 2, 3] rfl) (hD.sub [8, 9, 10, 11, 0, 1, 2, 3] (by decide) rfl) hS
def pw_Standing_clear : List Cond := .code yX9_clear cX9_clear 2 none :: ([.fieldLink RX9 9 "RiverVows$Standing" "husband" "[I", .fieldLink RX9 15 "RiverVows$Standing" "owed" "[I", .fieldLink RX9 18 "RiverVows$Standing" "silt" "[I", .fieldLink RX9 37 "RiverVows$Standing" "passed" "I", .fieldLink RX9 33 "RiverVows$Standing" "heirs" "I", .fieldLink RX9 40 "RiverVows$Standing" "told" "I"] ++ wsX90)
set_option maxHeartbeats 4000000 in
set_option maxRecDepth 100000 in
theorem c_Standing_clear (l : Launch) (D : va_G) (k : Nat → ClassId) (sz : Nat) (h0 : Nat) (a0 : Nat) (a1 : Nat) (a2 : Nat) (a3 : Nat) (a4 : Nat) (a5 : Nat) (a6 : Nat) (va7 : Value) (va8 : Value) (va9 : Value) (va10 : Value) (fa0 : Nat → Int32) (fa1 : Nat → Int32) (fa2 : Nat → Int32)  : pMv l yX9_clear pw_Standing_clear ({ frames := 0, cells := 0, slots := 0, locals := 0 }) D k [.ref h0] [(h0, .inr (8, [.ref a0, .ref a1, .ref a2, .ref a3, .ref a4, .ref a5, .ref a6, va7, va8, va9, va10])), (a0, .inl (k 1, 6, .inl fa0)), (a1, .inl (k 1, 6, .inl fa1)), (a2, .inl (k 1, 6, .inl fa2))] sz (S := (Nat → Int32) × (Nat → Int32) × (Nat → Int32)) (fun u => True) (fun u => [(h0, .inr (8, [.ref a0, .ref a1, .ref a2, .ref a3, .ref a4, .ref a5, .ref a6, .int 0, .int (-1), .int 0, va10])), (a0, .inl (k 1, 6, .inl u.1)), (a1, .inl (k 1, 6, .inl u.2.1)), (a2, .inl (k 1, 6, .inl u.2.2))]) 0 0 := by
  refine p_ofv (cc := cX9_clear) (maxL := 2) (by decide) rfl (Nat.le_of_ble_eq_true rfl) ?_
  intro p e s m below meth c hx hb hml hown hts hin hK hN A hA hP hD hS Q hret ls hl
  have hl : lv_has ls 2 [(0, .ref h0)] := hl
  have lf9 := hts (.fieldLink RX9 9 "RiverVows$Standing" "husband" "[I") (by decide +kernel)
  have inX9 : ∀ w ∈ wsX90, w ∈ pw_Standing_clear := by decide +kernel
  have lf15 := hts (.fieldLink RX9 15 "RiverVows$Standing" "owed" "[I") (by decide +kernel)
  have lf18 := hts (.fieldLink RX9 18 "RiverVows$Standing" "silt" "[I") (by decide +kernel)
  have lf37 := hts (.fieldLink RX9 37 "RiverVows$Standing" "passed" "I") (by decide +kernel)
  have lf33 := hts (.fieldLink RX9 33 "RiverVows$Standing" "heirs" "I") (by decide +kernel)
  have lf40 := hts (.fieldLink RX9 40 "RiverVows$Standing" "told" "I") (by decide +kernel)
  refine lv_iconst (v := 0) hx hb dX9_clear_0 (by decide) ?_
  refine lv_istore_n (lv' := [(1, .int 0), (0, .ref h0)]) hx hb dX9_clear_1 rfl hl (by decide) rfl (fun ls hl => ?_)
  refine lv_iload_n hx hb dX9_clear_2 rfl (lv_at hl 0 rfl) ?_
  refine lv_bipush (v := 6) hx hb dX9_clear_3 (by decide) ?_
  refine lv_icmp_ge (tgt := 35) hx hb dX9_clear_5 (by decide) (fun h9 => absurd h9 (by decide)) (fun cx1 => ?_)
  refine lv_aload_n hx hb dX9_clear_8 rfl (lv_at hl 1 rfl) ?_
  refine va_get (ci := 8) (v := .ref a0) (C := RX9) (T := TX9) (N := 11) hx hb hts inX9 hown hK hP 0 rfl rfl 0 (by decide) lf9 (fun _ h9 => h9) rfl dX9_clear_9 ?_
  refine lv_iload_n hx hb dX9_clear_12 rfl (lv_at hl 0 rfl) ?_
  refine lv_iconst (v := (-1)) hx hb dX9_clear_13 (by decide) ?_
  refine va_iast hx hb hK hP hD hS 1 1 rfl rfl (show ¬ (_ ∨ _) by decide) dX9_clear_14 (fun H locs hP hD hS => ?_)
  obtain ⟨fx2, hP, hD⟩ : ∃ fx2, va_P D vwCl [(h0, .inr (8, [.ref a0, .ref a1, .ref a2, .ref a3, .ref a4, .ref a5, .ref a6, va7, va8, va9, va10])), (a0, .inl (k 1, 6, .inl fx2)), (a1, .inl (k 1, 6, .inl fa1)), (a2, .inl (k 1, 6, .inl fa2))] H ∧ va_D A [(h0, .inr (8, [.ref a0, .ref a1, .ref a2, .ref a3, .ref a4, .ref a5, .ref a6, va7, va8, va9, va10])), (a0, .inl (k 1, 6, .inl fx2)), (a1, .inl (k 1, 6, .inl fa1)), (a2, .inl (k 1, 6, .inl fa2))] := ⟨_, hP, hD⟩
  refine lv_aload_n hx hb dX9_clear_15 rfl (lv_at hl 1 rfl) ?_
  refine va_get (ci := 8) (v := .ref a1) (C := RX9) (T := TX9) (N := 11) hx hb hts inX9 hown hK hP 0 rfl rfl 1 (by decide) lf15 (fun _ h9 => h9) rfl dX9_clear_16 ?_
  refine lv_iload_n hx hb dX9_clear_19 rfl (lv_at hl 0 rfl) ?_
  refine lv_iconst (v := 0) hx hb dX9_clear_20 (by decide) ?_
  refine va_iast hx hb hK hP hD hS 2 1 rfl rfl (show ¬ (_ ∨ _) by decide) dX9_clear_21 (fun H locs hP hD hS => ?_)
  obtain ⟨fx3, hP, hD⟩ : ∃ fx3, va_P D vwCl [(h0, .inr (8, [.ref a0, .ref a1, .ref a2, .ref a3, .ref a4, .ref a5, .ref a6, va7, va8, va9, va10])), (a0, .inl (k 1, 6, .inl fx2)), (a1, .inl (k 1, 6, .inl fx3)), (a2, .inl (k 1, 6, .inl fa2))] H ∧ va_D A [(h0, .inr (8, [.ref a0, .ref a1, .ref a2, .ref a3, .ref a4, .ref a5, .ref a6, va7, va8, va9, va10])), (a0, .inl (k 1, 6, .inl fx2)), (a1, .inl (k 1, 6, .inl fx3)), (a2, .inl (k 1, 6, .inl fa2))] := ⟨_, hP, hD⟩
  refine lv_aload_n hx hb dX9_clear_22 rfl (lv_at hl 1 rfl) ?_
  refine va_get (ci := 8) (v := .ref a2) (C := RX9) (T := TX9) (N := 11) hx hb hts inX9 hown hK hP 0 rfl rfl 2 (by decide) lf18 (fun _ h9 => h9) rfl dX9_clear_23 ?_
  refine lv_iload_n hx hb dX9_clear_26 rfl (lv_at hl 0 rfl) ?_
  refine lv_iconst (v := 0) hx hb dX9_clear_27 (by decide) ?_
  refine va_iast hx hb hK hP hD hS 3 1 rfl rfl (show ¬ (_ ∨ _) by decide) dX9_clear_28 (fun H locs hP hD hS => ?_)
  obtain ⟨fx4, hP, hD⟩ : ∃ fx4, va_P D vwCl [(h0, .inr (8, [.ref a0, .ref a1, .ref a2, .ref a3, .ref a4, .ref a5, .ref a6, va7, va8, va9, va10])), (a0, .inl (k 1, 6, .inl fx2)), (a1, .inl (k 1, 6, .inl fx3)), (a2, .inl (k 1, 6, .inl fx4))] H ∧ va_D A [(h0, .inr (8, [.ref a0, .ref a1, .ref a2, .ref a3, .ref a4, .ref a5, .ref a6, va7, va8, va9, va10])), (a0, .inl (k 1, 6, .inl fx2)), (a1, .inl (k 1, 6, .inl fx3)), (a2, .inl (k 1, 6, .inl fx4))] := ⟨_, hP, hD⟩
  refine lv_iinc (v := 1) (lv' := [(1, .int 1), (0, .ref h0)]) hx hb dX9_clear_29 hl (k := 0) rfl (by decide) (by decide) rfl (fun ls hl => ?_)
  refine lv_goto (tgt := 2) hx hb dX9_clear_32 (by decide) ?_
  refine lv_iload_n hx hb dX9_clear_2 rfl (lv_at hl 0 rfl) ?_
  refine lv_bipush (v := 6) hx hb dX9_clear_3 (by decide) ?_
  refine lv_icmp_ge (tgt := 35) hx hb dX9_clear_5 (by decide) (fun h9 => absurd h9 (by decide)) (fun cx5 => ?_)
  refine lv_aload_n hx hb dX9_clear_8 rfl (lv_at hl 1 rfl) ?_
  refine va_get (ci := 8) (v := .ref a0) (C := RX9) (T := TX9) (N := 11) hx hb hts inX9 hown hK hP 0 rfl rfl 0 (by decide) lf9 (fun _ h9 => h9) rfl dX9_clear_9 ?_
  refine lv_iload_n hx hb dX9_clear_12 rfl (lv_at hl 0 rfl) ?_
  refine lv_iconst (v := (-1)) hx hb dX9_clear_13 (by decide) ?_
  refine va_iast hx hb hK hP hD hS 1 1 rfl rfl (show ¬ (_ ∨ _) by decide) dX9_clear_14 (fun H locs hP hD hS => ?_)
  obtain ⟨fx6, hP, hD⟩ : ∃ fx6, va_P D vwCl [(h0, .inr (8, [.ref a0, .ref a1, .ref a2, .ref a3, .ref a4, .ref a5, .ref a6, va7, va8, va9, va10])), (a0, .inl (k 1, 6, .inl fx6)), (a1, .inl (k 1, 6, .inl fx3)), (a2, .inl (k 1, 6, .inl fx4))] H ∧ va_D A [(h0, .inr (8, [.ref a0, .ref a1, .ref a2, .ref a3, .ref a4, .ref a5, .ref a6, va7, va8, va9, va10])), (a0, .inl (k 1, 6, .inl fx6)), (a1, .inl (k 1, 6, .inl fx3)), (a2, .inl (k 1, 6, .inl fx4))] := ⟨_, hP, hD⟩
  refine lv_aload_n hx hb dX9_clear_15 rfl (lv_at hl 1 rfl) ?_
  refine va_get (ci := 8) (v := .ref a1) (C := RX9) (T := TX9) (N := 11) hx hb hts inX9 hown hK hP 0 rfl rfl 1 (by decide) lf15 (fun _ h9 => h9) rfl dX9_clear_16 ?_
  refine lv_iload_n hx hb dX9_clear_19 rfl (lv_at hl 0 rfl) ?_
  refine lv_iconst (v := 0) hx hb dX9_clear_20 (by decide) ?_
  refine va_iast hx hb hK hP hD hS 2 1 rfl rfl (show ¬ (_ ∨ _) by decide) dX9_clear_21 (fun H locs hP hD hS => ?_)
  obtain ⟨fx7, hP, hD⟩ : ∃ fx7, va_P D vwCl [(h0, .inr (8, [.ref a0, .ref a1, .ref a2, .ref a3, .ref a4, .ref a5, .ref a6, va7, va8, va9, va10])), (a0, .inl (k 1, 6, .inl fx6)), (a1, .inl (k 1, 6, .inl fx7)), (a2, .inl (k 1, 6, .inl fx4))] H ∧ va_D A [(h0, .inr (8, [.ref a0, .ref a1, .ref a2, .ref a3, .ref a4, .ref a5, .ref a6, va7, va8, va9, va10])), (a0, .inl (k 1, 6, .inl fx6)), (a1, .inl (k 1, 6, .inl fx7)), (a2, .inl (k 1, 6, .inl fx4))] := ⟨_, hP, hD⟩
  refine lv_aload_n hx hb dX9_clear_22 rfl (lv_at hl 1 rfl) ?_
  refine va_get (ci := 8) (v := .ref a2) (C := RX9) (T := TX9) (N := 11) hx hb hts inX9 hown hK hP 0 rfl rfl 2 (by decide) lf18 (fun _ h9 => h9) rfl dX9_clear_23 ?_
  refine lv_iload_n hx hb dX9_clear_26 rfl (lv_at hl 0 rfl) ?_
  refine lv_iconst (v := 0) hx hb dX9_clear_27 (by decide) ?_
  refine va_iast hx hb hK hP hD hS 3 1 rfl rfl (show ¬ (_ ∨ _) by decide) dX9_clear_28 (fun H locs hP hD hS => ?_)
  obtain ⟨fx8, hP, hD⟩ : ∃ fx8, va_P D vwCl [(h0, .inr (8, [.ref a0, .ref a1, .ref a2, .ref a3, .ref a4, .ref a5, .ref a6, va7, va8, va9, va10])), (a0, .inl (k 1, 6, .inl fx6)), (a1, .inl (k 1, 6, .inl fx7)), (a2, .inl (k 1, 6, .inl fx8))] H ∧ va_D A [(h0, .inr (8, [.ref a0, .ref a1, .ref a2, .ref a3, .ref a4, .ref a5, .ref a6, va7, va8, va9, va10])), (a0, .inl (k 1, 6, .inl fx6)), (a1, .inl (k 1, 6, .inl fx7)), (a2, .inl (k 1, 6, .inl fx8))] := ⟨_, hP, hD⟩
  refine lv_iinc (v := 2) (lv' := [(1, .int 2), (0, .ref h0)]) hx hb dX9_clear_29 hl (k := 0) rfl (by decide) (by decide) rfl (fun ls hl => ?_)
  refine lv_goto (tgt := 2) hx hb dX9_clear_32 (by decide) ?_
  refine lv_iload_n hx hb dX9_clear_2 rfl (lv_at hl 0 rfl) ?_
  refine lv_bipush (v := 6) hx hb dX9_clear_3 (by decide) ?_
  refine lv_icmp_ge (tgt := 35) hx hb dX9_clear_5 (by decide) (fun h9 => absurd h9 (by decide)) (fun cx9 => ?_)
  refine lv_aload_n hx hb dX9_clear_8 rfl (lv_at hl 1 rfl) ?_
  refine va_get (ci := 8) (v := .ref a0) (C := RX9) (T := TX9) (N := 11) hx hb hts inX9 hown hK hP 0 rfl rfl 0 (by decide) lf9 (fun _ h9 => h9) rfl dX9_clear_9 ?_
  refine lv_iload_n hx hb dX9_clear_12 rfl (lv_at hl 0 rfl) ?_
  refine lv_iconst (v := (-1)) hx hb dX9_clear_13 (by decide) ?_
  refine va_iast hx hb hK hP hD hS 1 1 rfl rfl (show ¬ (_ ∨ _) by decide) dX9_clear_14 (fun H locs hP hD hS => ?_)
  obtain ⟨fx10, hP, hD⟩ : ∃ fx10, va_P D vwCl [(h0, .inr (8, [.ref a0, .ref a1, .ref a2, .ref a3, .ref a4, .ref a5, .ref a6, va7, va8, va9, va10])), (a0, .inl (k 1, 6, .inl fx10)), (a1, .inl (k 1, 6, .inl fx7)), (a2, .inl (k 1, 6, .inl fx8))] H ∧ va_D A [(h0, .inr (8, [.ref a0, .ref a1, .ref a2, .ref a3, .ref a4, .ref a5, .ref a6, va7, va8, va9, va10])), (a0, .inl (k 1, 6, .inl fx10)), (a1, .inl (k 1, 6, .inl fx7)), (a2, .inl (k 1, 6, .inl fx8))] := ⟨_, hP, hD⟩
  refine lv_aload_n hx hb dX9_clear_15 rfl (lv_at hl 1 rfl) ?_
  refine va_get (ci := 8) (v := .ref a1) (C := RX9) (T := TX9) (N := 11) hx hb hts inX9 hown hK hP 0 rfl rfl 1 (by decide) lf15 (fun _ h9 => h9) rfl dX9_clear_16 ?_
  refine lv_iload_n hx hb dX9_clear_19 rfl (lv_at hl 0 rfl) ?_
  refine lv_iconst (v := 0) hx hb dX9_clear_20 (by decide) ?_
  refine va_iast hx hb hK hP hD hS 2 1 rfl rfl (show ¬ (_ ∨ _) by decide) dX9_clear_21 (fun H locs hP hD hS => ?_)
  obtain ⟨fx11, hP, hD⟩ : ∃ fx11, va_P D vwCl [(h0, .inr (8, [.ref a0, .ref a1, .ref a2, .ref a3, .ref a4, .ref a5, .ref a6, va7, va8, va9, va10])), (a0, .inl (k 1, 6, .inl fx10)), (a1, .inl (k 1, 6, .inl fx11)), (a2, .inl (k 1, 6, .inl fx8))] H ∧ va_D A [(h0, .inr (8, [.ref a0, .ref a1, .ref a2, .ref a3, .ref a4, .ref a5, .ref a6, va7, va8, va9, va10])), (a0, .inl (k 1, 6, .inl fx10)), (a1, .inl (k 1, 6, .inl fx11)), (a2, .inl (k 1, 6, .inl fx8))] := ⟨_, hP, hD⟩
  refine lv_aload_n hx hb dX9_clear_22 rfl (lv_at hl 1 rfl) ?_
  refine va_get (ci := 8) (v := .ref a2) (C := RX9) (T := TX9) (N := 11) hx hb hts inX9 hown hK hP 0 rfl rfl 2 (by decide) lf18 (fun _ h9 => h9) rfl dX9_clear_23 ?_
  refine lv_iload_n hx hb dX9_clear_26 rfl (lv_at hl 0 rfl) ?_
  refine lv_iconst (v := 0) hx hb dX9_clear_27 (by decide) ?_
  refine va_iast hx hb hK hP hD hS 3 1 rfl rfl (show ¬ (_ ∨ _) by decide) dX9_clear_28 (fun H locs hP hD hS => ?_)
  obtain ⟨fx12, hP, hD⟩ : ∃ fx12, va_P D vwCl [(h0, .inr (8, [.ref a0, .ref a1, .ref a2, .ref a3, .ref a4, .ref a5, .ref a6, va7, va8, va9, va10])), (a0, .inl (k 1, 6, .inl fx10)), (a1, .inl (k 1, 6, .inl fx11)), (a2, .inl (k 1, 6, .inl fx12))] H ∧ va_D A [(h0, .inr (8, [.ref a0, .ref a1, .ref a2, .ref a3, .ref a4, .ref a5, .ref a6, va7, va8, va9, va10])), (a0, .inl (k 1, 6, .inl fx10)), (a1, .inl (k 1, 6, .inl fx11)), (a2, .inl (k 1, 6, .inl fx12))] := ⟨_, hP, hD⟩
  refine lv_iinc (v := 3) (lv' := [(1, .int 3), (0, .ref h0)]) hx hb dX9_clear_29 hl (k := 0) rfl (by decide) (by decide) rfl (fun ls hl => ?_)
  refine lv_goto (tgt := 2) hx hb dX9_clear_32 (by decide) ?_
  refine lv_iload_n hx hb dX9_clear_2 rfl (lv_at hl 0 rfl) ?_
  refine lv_bipush (v := 6) hx hb dX9_clear_3 (by decide) ?_
  refine lv_icmp_ge (tgt := 35) hx hb dX9_clear_5 (by decide) (fun h9 => absurd h9 (by decide)) (fun cx13 => ?_)
  refine lv_aload_n hx hb dX9_clear_8 rfl (lv_at hl 1 rfl) ?_
  refine va_get (ci := 8) (v := .ref a0) (C := RX9) (T := TX9) (N := 11) hx hb hts inX9 hown hK hP 0 rfl rfl 0 (by decide) lf9 (fun _ h9 => h9) rfl dX9_clear_9 ?_
  refine lv_iload_n hx hb dX9_clear_12 rfl (lv_at hl 0 rfl) ?_
  refine lv_iconst (v := (-1)) hx hb dX9_clear_13 (by decide) ?_
  refine va_iast hx hb hK hP hD hS 1 1 rfl rfl (show ¬ (_ ∨ _) by decide) dX9_clear_14 (fun H locs hP hD hS => ?_)
  obtain ⟨fx14, hP, hD⟩ : ∃ fx14, va_P D vwCl [(h0, .inr (8, [.ref a0, .ref a1, .ref a2, .ref a3, .ref a4, .ref a5, .ref a6, va7, va8, va9, va10])), (a0, .inl (k 1, 6, .inl fx14)), (a1, .inl (k 1, 6, .inl fx11)), (a2, .inl (k 1, 6, .inl fx12))] H ∧ va_D A [(h0, .inr (8, [.ref a0, .ref a1, .ref a2, .ref a3, .ref a4, .ref a5, .ref a6, va7, va8, va9, va10])), (a0, .inl (k 1, 6, .inl fx14)), (a1, .inl (k 1, 6, .inl fx11)), (a2, .inl (k 1, 6, .inl fx12))] := ⟨_, hP, hD⟩
  refine lv_aload_n hx hb dX9_clear_15 rfl (lv_at hl 1 rfl) ?_
  refine va_get (ci := 8) (v := .ref a1) (C := RX9) (T := TX9) (N := 11) hx hb hts inX9 hown hK hP 0 rfl rfl 1 (by decide) lf15 (fun _ h9 => h9) rfl dX9_clear_16 ?_
  refine lv_iload_n hx hb dX9_clear_19 rfl (lv_at hl 0 rfl) ?_
  refine lv_iconst (v := 0) hx hb dX9_clear_20 (by decide) ?_
  refine va_iast hx hb hK hP hD hS 2 1 rfl rfl (show ¬ (_ ∨ _) by decide) dX9_clear_21 (fun H locs hP hD hS => ?_)
  obtain ⟨fx15, hP, hD⟩ : ∃ fx15, va_P D vwCl [(h0, .inr (8, [.ref a0, .ref a1, .ref a2, .ref a3, .ref a4, .ref a5, .ref a6, va7, va8, va9, va10])), (a0, .inl (k 1, 6, .inl fx14)), (a1, .inl (k 1, 6, .inl fx15)), (a2, .inl (k 1, 6, .inl fx12))] H ∧ va_D A [(h0, .inr (8, [.ref a0, .ref a1, .ref a2, .ref a3, .ref a4, .ref a5, .ref a6, va7, va8, va9, va10])), (a0, .inl (k 1, 6, .inl fx14)), (a1, .inl (k 1, 6, .inl fx15)), (a2, .inl (k 1, 6, .inl fx12))] := ⟨_, hP, hD⟩
  refine lv_aload_n hx hb dX9_clear_22 rfl (lv_at hl 1 rfl) ?_
  refine va_get (ci := 8) (v := .ref a2) (C := RX9) (T := TX9) (N := 11) hx hb hts inX9 hown hK hP 0 rfl rfl 2 (by decide) lf18 (fun _ h9 => h9) rfl dX9_clear_23 ?_
  refine lv_iload_n hx hb dX9_clear_26 rfl (lv_at hl 0 rfl) ?_
  refine lv_iconst (v := 0) hx hb dX9_clear_27 (by decide) ?_
  refine va_iast hx hb hK hP hD hS 3 1 rfl rfl (show ¬ (_ ∨ _) by decide) dX9_clear_28 (fun H locs hP hD hS => ?_)
  obtain ⟨fx16, hP, hD⟩ : ∃ fx16, va_P D vwCl [(h0, .inr (8, [.ref a0, .ref a1, .ref a2, .ref a3, .ref a4, .ref a5, .ref a6, va7, va8, va9, va10])), (a0, .inl (k 1, 6, .inl fx14)), (a1, .inl (k 1, 6, .inl fx15)), (a2, .inl (k 1, 6, .inl fx16))] H ∧ va_D A [(h0, .inr (8, [.ref a0, .ref a1, .ref a2, .ref a3, .ref a4, .ref a5, .ref a6, va7, va8, va9, va10])), (a0, .inl (k 1, 6, .inl fx14)), (a1, .inl (k 1, 6, .inl fx15)), (a2, .inl (k 1, 6, .inl fx16))] := ⟨_, hP, hD⟩
  refine lv_iinc (v := 4) (lv' := [(1, .int 4), (0, .ref h0)]) hx hb dX9_clear_29 hl (k := 0) rfl (by decide) (by decide) rfl (fun ls hl => ?_)
  refine lv_goto (tgt := 2) hx hb dX9_clear_32 (by decide) ?_
  refine lv_iload_n hx hb dX9_clear_2 rfl (lv_at hl 0 rfl) ?_
  refine lv_bipush (v := 6) hx hb dX9_clear_3 (by decide) ?_
  refine lv_icmp_ge (tgt := 35) hx hb dX9_clear_5 (by decide) (fun h9 => absurd h9 (by decide)) (fun cx17 => ?_)
  refine lv_aload_n hx hb dX9_clear_8 rfl (lv_at hl 1 rfl) ?_
  refine va_get (ci := 8) (v := .ref a0) (C := RX9) (T := TX9) (N := 11) hx hb hts inX9 hown hK hP 0 rfl rfl 0 (by decide) lf9 (fun _ h9 => h9) rfl dX9_clear_9 ?_
  refine lv_iload_n hx hb dX9_clear_12 rfl (lv_at hl 0 rfl) ?_
  refine lv_iconst (v := (-1)) hx hb dX9_clear_13 (by decide) ?_
  refine va_iast hx hb hK hP hD hS 1 1 rfl rfl (show ¬ (_ ∨ _) by decide) dX9_clear_14 (fun H locs hP hD hS => ?_)
  obtain ⟨fx18, hP, hD⟩ : ∃ fx18, va_P D vwCl [(h0, .inr (8, [.ref a0, .ref a1, .ref a2, .ref a3, .ref a4, .ref a5, .ref a6, va7, va8, va9, va10])), (a0, .inl (k 1, 6, .inl fx18)), (a1, .inl (k 1, 6, .inl fx15)), (a2, .inl (k 1, 6, .inl fx16))] H ∧ va_D A [(h0, .inr (8, [.ref a0, .ref a1, .ref a2, .ref a3, .ref a4, .ref a5, .ref a6, va7, va8, va9, va10])), (a0, .inl (k 1, 6, .inl fx18)), (a1, .inl (k 1, 6, .inl fx15)), (a2, .inl (k 1, 6, .inl fx16))] := ⟨_, hP, hD⟩
  refine lv_aload_n hx hb dX9_clear_15 rfl (lv_at hl 1 rfl) ?_
  refine va_get (ci := 8) (v := .ref a1) (C := RX9) (T := TX9) (N := 11) hx hb hts inX9 hown hK hP 0 rfl rfl 1 (by decide) lf15 (fun _ h9 => h9) rfl dX9_clear_16 ?_
  refine lv_iload_n hx hb dX9_clear_19 rfl (lv_at hl 0 rfl) ?_
  refine lv_iconst (v := 0) hx hb dX9_clear_20 (by decide) ?_
  refine va_iast hx hb hK hP hD hS 2 1 rfl rfl (show ¬ (_ ∨ _) by decide) dX9_clear_21 (fun H locs hP hD hS => ?_)
  obtain ⟨fx19, hP, hD⟩ : ∃ fx19, va_P D vwCl [(h0, .inr (8, [.ref a0, .ref a1, .ref a2, .ref a3, .ref a4, .ref a5, .ref a6, va7, va8, va9, va10])), (a0, .inl (k 1, 6, .inl fx18)), (a1, .inl (k 1, 6, .inl fx19)), (a2, .inl (k 1, 6, .inl fx16))] H ∧ va_D A [(h0, .inr (8, [.ref a0, .ref a1, .ref a2, .ref a3, .ref a4, .ref a5, .ref a6, va7, va8, va9, va10])), (a0, .inl (k 1, 6, .inl fx18)), (a1, .inl (k 1, 6, .inl fx19)), (a2, .inl (k 1, 6, .inl fx16))] := ⟨_, hP, hD⟩
  refine lv_aload_n hx hb dX9_clear_22 rfl (lv_at hl 1 rfl) ?_
  refine va_get (ci := 8) (v := .ref a2) (C := RX9) (T := TX9) (N := 11) hx hb hts inX9 hown hK hP 0 rfl rfl 2 (by decide) lf18 (fun _ h9 => h9) rfl dX9_clear_23 ?_
  refine lv_iload_n hx hb dX9_clear_26 rfl (lv_at hl 0 rfl) ?_
  refine lv_iconst (v := 0) hx hb dX9_clear_27 (by decide) ?_
  refine va_iast hx hb hK hP hD hS 3 1 rfl rfl (show ¬ (_ ∨ _) by decide) dX9_clear_28 (fun H locs hP hD hS => ?_)
  obtain ⟨fx20, hP, hD⟩ : ∃ fx20, va_P D vwCl [(h0, .inr (8, [.ref a0, .ref a1, .ref a2, .ref a3, .ref a4, .ref a5, .ref a6, va7, va8, va9, va10])), (a0, .inl (k 1, 6, .inl fx18)), (a1, .inl (k 1, 6, .inl fx19)), (a2, .inl (k 1, 6, .inl fx20))] H ∧ va_D A [(h0, .inr (8, [.ref a0, .ref a1, .ref a2, .ref a3, .ref a4, .ref a5, .ref a6, va7, va8, va9, va10])), (a0, .inl (k 1, 6, .inl fx18)), (a1, .inl (k 1, 6, .inl fx19)), (a2, .inl (k 1, 6, .inl fx20))] := ⟨_, hP, hD⟩
  refine lv_iinc (v := 5) (lv' := [(1, .int 5), (0, .ref h0)]) hx hb dX9_clear_29 hl (k := 0) rfl (by decide) (by decide) rfl (fun ls hl => ?_)
  refine lv_goto (tgt := 2) hx hb dX9_clear_32 (by decide) ?_
  refine lv_iload_n hx hb dX9_clear_2 rfl (lv_at hl 0 rfl) ?_
  refine lv_bipush (v := 6) hx hb dX9_clear_3 (by decide) ?_
  refine lv_icmp_ge (tgt := 35) hx hb dX9_clear_5 (by decide) (fun h9 => absurd h9 (by decide)) (fun cx21 => ?_)
  refine lv_aload_n hx hb dX9_clear_8 rfl (lv_at hl 1 rfl) ?_
  refine va_get (ci := 8) (v := .ref a0) (C := RX9) (T := TX9) (N := 11) hx hb hts inX9 hown hK hP 0 rfl rfl 0 (by decide) lf9 (fun _ h9 => h9) rfl dX9_clear_9 ?_
  refine lv_iload_n hx hb dX9_clear_12 rfl (lv_at hl 0 rfl) ?_
  refine lv_iconst (v := (-1)) hx hb dX9_clear_13 (by decide) ?_
  refine va_iast hx hb hK hP hD hS 1 1 rfl rfl (show ¬ (_ ∨ _) by decide) dX9_clear_14 (fun H locs hP hD hS => ?_)
  obtain ⟨fx22, hP, hD⟩ : ∃ fx22, va_P D vwCl [(h0, .inr (8, [.ref a0, .ref a1, .ref a2, .ref a3, .ref a4, .ref a5, .ref a6, va7, va8, va9, va10])), (a0, .inl (k 1, 6, .inl fx22)), (a1, .inl (k 1, 6, .inl fx19)), (a2, .inl (k 1, 6, .inl fx20))] H ∧ va_D A [(h0, .inr (8, [.ref a0, .ref a1, .ref a2, .ref a3, .ref a4, .ref a5, .ref a6, va7, va8, va9, va10])), (a0, .inl (k 1, 6, .inl fx22)), (a1, .inl (k 1, 6, .inl fx19)), (a2, .inl (k 1, 6, .inl fx20))] := ⟨_, hP, hD⟩
  refine lv_aload_n hx hb dX9_clear_15 rfl (lv_at hl 1 rfl) ?_
  refine va_get (ci := 8) (v := .ref a1) (C := RX9) (T := TX9) (N := 11) hx hb hts inX9 hown hK hP 0 rfl rfl 1 (by decide) lf15 (fun _ h9 => h9) rfl dX9_clear_16 ?_
  refine lv_iload_n hx hb dX9_clear_19 rfl (lv_at hl 0 rfl) ?_
  refine lv_iconst (v := 0) hx hb dX9_clear_20 (by decide) ?_
  refine va_iast hx hb hK hP hD hS 2 1 rfl rfl (show ¬ (_ ∨ _) by decide) dX9_clear_21 (fun H locs hP hD hS => ?_)
  obtain ⟨fx23, hP, hD⟩ : ∃ fx23, va_P D vwCl [(h0, .inr (8, [.ref a0, .ref a1, .ref a2, .ref a3, .ref a4, .ref a5, .ref a6, va7, va8, va9, va10])), (a0, .inl (k 1, 6, .inl fx22)), (a1, .inl (k 1, 6, .inl fx23)), (a2, .inl (k 1, 6, .inl fx20))] H ∧ va_D A [(h0, .inr (8, [.ref a0, .ref a1, .ref a2, .ref a3, .ref a4, .ref a5, .ref a6, va7, va8, va9, va10])), (a0, .inl (k 1, 6, .inl fx22)), (a1, .inl (k 1, 6, .inl fx23)), (a2, .inl (k 1, 6, .inl fx20))] := ⟨_, hP, hD⟩
  refine lv_aload_n hx hb dX9_clear_22 rfl (lv_at hl 1 rfl) ?_
  refine va_get (ci := 8) (v := .ref a2) (C := RX9) (T := TX9) (N := 11) hx hb hts inX9 hown hK hP 0 rfl rfl 2 (by decide) lf18 (fun _ h9 => h9) rfl dX9_clear_23 ?_
  refine lv_iload_n hx hb dX9_clear_26 rfl (lv_at hl 0 rfl) ?_
  refine lv_iconst (v := 0) hx hb dX9_clear_27 (by decide) ?_
  refine va_iast hx hb hK hP hD hS 3 1 rfl rfl (show ¬ (_ ∨ _) by decide) dX9_clear_28 (fun H locs hP hD hS => ?_)
  obtain ⟨fx24, hP, hD⟩ : ∃ fx24, va_P D vwCl [(h0, .inr (8, [.ref a0, .ref a1, .ref a2, .ref a3, .ref a4, .ref a5, .ref a6, va7, va8, va9, va10])), (a0, .inl (k 1, 6, .inl fx22)), (a1, .inl (k 1, 6, .inl fx23)), (a2, .inl (k 1, 6, .inl fx24))] H ∧ va_D A [(h0, .inr (8, [.ref a0, .ref a1, .ref a2, .ref a3, .ref a4, .ref a5, .ref a6, va7, va8, va9, va10])), (a0, .inl (k 1, 6, .inl fx22)), (a1, .inl (k 1, 6, .inl fx23)), (a2, .inl (k 1, 6, .inl fx24))] := ⟨_, hP, hD⟩
  refine lv_iinc (v := 6) (lv' := [(1, .int 6), (0, .ref h0)]) hx hb dX9_clear_29 hl (k := 0) rfl (by decide) (by decide) rfl (fun ls hl => ?_)
  refine lv_goto (tgt := 2) hx hb dX9_clear_32 (by decide) ?_
  refine lv_iload_n hx hb dX9_clear_2 rfl (lv_at hl 0 rfl) ?_
  refine lv_bipush (v := 6) hx hb dX9_clear_3 (by decide) ?_
  refine lv_icmp_ge (tgt := 35) hx hb dX9_clear_5 (by decide) (fun cx25 => ?_) (fun h9 => absurd (by decide) h9)
  refine lv_aload_n hx hb dX9_clear_35 rfl (lv_at hl 1 rfl) ?_
  refine lv_iconst (v := 0) hx hb dX9_clear_36 (by decide) ?_
  refine va_put (ci := 8) (v := .int 0) (ty := .int) (C := RX9) (T := TX9) (N := 11) hx hb hts inX9 tyX9 tyX9_ok nmX9 hown hK hP hD hS 0 rfl rfl 7 (by decide) lf37 (fun _ h9 => h9) rfl (by decide +kernel) rfl rfl (Nat.le_of_ble_eq_true rfl) dX9_clear_37 (fun H locs hP hD hS => ?_)
  have hP : va_P D vwCl [(h0, .inr (8, [.ref a0, .ref a1, .ref a2, .ref a3, .ref a4, .ref a5, .ref a6, .int 0, va8, va9, va10])), (a0, .inl (k 1, 6, .inl fx22)), (a1, .inl (k 1, 6, .inl fx23)), (a2, .inl (k 1, 6, .inl fx24))] H := hP
  have hD : va_D A [(h0, .inr (8, [.ref a0, .ref a1, .ref a2, .ref a3, .ref a4, .ref a5, .ref a6, .int 0, va8, va9, va10])), (a0, .inl (k 1, 6, .inl fx22)), (a1, .inl (k 1, 6, .inl fx23)), (a2, .inl (k 1, 6, .inl fx24))] := hD
  refine lv_aload_n hx hb dX9_clear_40 rfl (lv_at hl 1 rfl) ?_
  refine lv_iconst (v := (-1)) hx hb dX9_clear_41 (by decide) ?_
  refine va_put (ci := 8) (v := .int (-1)) (ty := .int) (C := RX9) (T := TX9) (N := 11) hx hb hts inX9 tyX9 tyX9_ok nmX9 hown hK hP hD hS 0 rfl rfl 8 (by decide) lf33 (fun _ h9 => h9) rfl (by decide +kernel) rfl rfl (Nat.le_of_ble_eq_true rfl) dX9_clear_42 (fun H locs hP hD hS => ?_)
  have hP : va_P D vwCl [(h0, .inr (8, [.ref a0, .ref a1, .ref a2, .ref a3, .ref a4, .ref a5, .ref a6, .int 0, .int (-1), va9, va10])), (a0, .inl (k 1, 6, .inl fx22)), (a1, .inl (k 1, 6, .inl fx23)), (a2, .inl (k 1, 6, .inl fx24))] H := hP
  have hD : va_D A [(h0, .inr (8, [.ref a0, .ref a1, .ref a2, .ref a3, .ref a4, .ref a5, .ref a6, .int 0, .int (-1), va9, va10])), (a0, .inl (k 1, 6, .inl fx22)), (a1, .inl (k 1, 6, .inl fx23)), (a2, .inl (k 1, 6, .inl fx24))] := hD
  refine lv_aload_n hx hb dX9_clear_45 rfl (lv_at hl 1 rfl) ?_
  refine lv_iconst (v := 0) hx hb dX9_clear_46 (by decide) ?_
  refine va_put (ci := 8) (v := .int 0) (ty := .int) (C := RX9) (T := TX9) (N := 11) hx hb hts inX9 tyX9 tyX9_ok nmX9 hown hK hP hD hS 0 rfl rfl 9 (by decide) lf40 (fun _ h9 => h9) rfl (by decide +kernel) rfl rfl (Nat.le_of_ble_eq_true rfl) dX9_clear_47 (fun H locs hP hD hS => ?_)
  have hP : va_P D vwCl [(h0, .inr (8, [.ref a0, .ref a1, .ref a2, .ref a3, .ref a4, .ref a5, .ref a6, .int 0, .int (-1), .int 0, va10])), (a0, .inl (k 1, 6, .inl fx22)), (a1, .inl (k 1, 6, .inl fx23)), (a2, .inl (k 1, 6, .inl fx24))] H := hP
  have hD : va_D A [(h0, .inr (8, [.ref a0, .ref a1, .ref a2, .ref a3, .ref a4, .ref a5, .ref a6, .int 0, .int (-1), .int 0, va10])), (a0, .inl (k 1, 6, .inl fx22)), (a1, .inl (k 1, 6, .inl fx23)), (a2, .inl (k 1, 6, .inl fx24))] := hD
  exact hret _ _ _ _ _ _ (fx22, fx23, fx24) (by decide) (by decide) dX9_clear_50 trivial (hP.sub [0, 1, 2, 3] rfl) (hD.sub [0, 1, 2, 3] (by decide) rfl) hS
def pw_Land_clear : List Cond := .code yX3_clear cX3_clear 1 none :: ([.fieldLink RX3 45 "RiverVows$Land" "rivers" "I", .fieldLink RX3 49 "RiverVows$Land" "ranges" "I", .fieldLink RX3 52 "RiverVows$Land" "kin" "I", .fieldLink RX3 55 "RiverVows$Land" "chance" "I", .fieldLink RX3 58 "RiverVows$Land" "more" "I", .fieldLink RX3 27 "RiverVows$Land" "dowry" "LRiverVows$Formula;", .code yX2_clear cX2_clear 1 none, .fieldLink RX2 18 "RiverVows$Formula" "length" "I", .methodLink RX3 61 yX2_clear, .instanceMethod yX2_clear, .selects RX2 yX2_clear yX2_clear, .initialized RX2, .code yX2_add cX2_add 2 none, .fieldLink RX2 9 "RiverVows$Formula" "steps" "[I", .methodLink RX3 41 yX2_add, .instanceMethod yX2_add, .selects RX2 yX2_add yX2_add, .fieldLink RX3 31 "RiverVows$Land" "silt" "LRiverVows$Formula;"] ++ wsX30 ++ wsX20)
set_option maxRecDepth 20000 in
theorem pg_Land_clear_0 : GoodIn pw_Land_clear (wsV RX3 61 RX2 yX2_clear pw_Formula_clear) := goodIn_sub (by decide +kernel) (by decide +kernel)
set_option maxRecDepth 20000 in
theorem pg_Land_clear_1 : GoodIn pw_Land_clear (wsV RX3 41 RX2 yX2_add pw_Formula_add) := goodIn_sub (by decide +kernel) (by decide +kernel)
set_option maxHeartbeats 4000000 in
set_option maxRecDepth 100000 in
theorem c_Land_clear (l : Launch) (D : va_G) (k : Nat → ClassId) (sz : Nat) (h0 : Nat) (l0 : Nat) (l1 : Nat) (l2 : Nat) (l3 : Nat) (l4 : Nat) (l5 : Nat) (l6 : Nat) (s1 : Nat) (s2 : Nat) (t1 : Value) (t2 : Value) (f1 : Nat → Int32) (f2 : Nat → Int32)  : pMv l yX3_clear pw_Land_clear ({ frames := 1, cells := 0, slots := 0, locals := 21 }) D k [.ref h0] [(h0, .inr (2, [.ref l0, .ref l1, .ref l2, .ref l3, .ref l4, .ref l5, .ref l6, .int 0, .int 0, .int 0, .int 0, .int 0])), (l3, .inr (1, [.ref s1, t1, .int 1])), (s1, .inl (k 1, 1000, .inl f1)), (l4, .inr (1, [.ref s2, t2, .int 1])), (s2, .inl (k 1, 1000, .inl f2))] sz (S := (Nat → Int32) × (Nat → Int32)) (fun u => True) (fun u => [(h0, .inr (2, [.ref l0, .ref l1, .ref l2, .ref l3, .ref l4, .ref l5, .ref l6, .int 0, .int 0, .int 0, .int 0, .int 0])), (l3, .inr (1, [.ref s1, t1, .int 1])), (s1, .inl (k 1, 1000, .inl u.1)), (l4, .inr (1, [.ref s2, t2, .int 1])), (s2, .inl (k 1, 1000, .inl u.2))]) 0 0 := by
  refine p_ofv (cc := cX3_clear) (maxL := 1) (by decide) rfl (Nat.le_of_ble_eq_true rfl) ?_
  intro p e s m below meth c hx hb hml hown hts hin hK hN A hA hP hD hS Q hret ls hl
  have hl : lv_has ls 1 [(0, .ref h0)] := hl
  have lf45 := hts (.fieldLink RX3 45 "RiverVows$Land" "rivers" "I") (by decide +kernel)
  have inX3 : ∀ w ∈ wsX30, w ∈ pw_Land_clear := by decide +kernel
  have lf49 := hts (.fieldLink RX3 49 "RiverVows$Land" "ranges" "I") (by decide +kernel)
  have lf52 := hts (.fieldLink RX3 52 "RiverVows$Land" "kin" "I") (by decide +kernel)
  have lf55 := hts (.fieldLink RX3 55 "RiverVows$Land" "chance" "I") (by decide +kernel)
  have lf58 := hts (.fieldLink RX3 58 "RiverVows$Land" "more" "I") (by decide +kernel)
  have lf27 := hts (.fieldLink RX3 27 "RiverVows$Land" "dowry" "LRiverVows$Formula;") (by decide +kernel)
  have lf31 := hts (.fieldLink RX3 31 "RiverVows$Land" "silt" "LRiverVows$Formula;") (by decide +kernel)
  refine lv_aload_n hx hb dX3_clear_0 rfl (lv_at hl 0 rfl) ?_
  refine lv_iconst (v := 0) hx hb dX3_clear_1 (by decide) ?_
  refine va_put (ci := 2) (v := .int 0) (ty := .int) (C := RX3) (T := TX3) (N := 12) hx hb hts inX3 tyX3 tyX3_ok nmX3 hown hK hP hD hS 0 rfl rfl 7 (by decide) lf45 (fun _ h9 => h9) rfl (by decide +kernel) rfl rfl (Nat.le_of_ble_eq_true rfl) dX3_clear_2 (fun H locs hP hD hS => ?_)
  have hP : va_P D vwCl [(h0, .inr (2, [.ref l0, .ref l1, .ref l2, .ref l3, .ref l4, .ref l5, .ref l6, .int 0, .int 0, .int 0, .int 0, .int 0])), (l3, .inr (1, [.ref s1, t1, .int 1])), (s1, .inl (k 1, 1000, .inl f1)), (l4, .inr (1, [.ref s2, t2, .int 1])), (s2, .inl (k 1, 1000, .inl f2))] H := hP
  have hD : va_D A [(h0, .inr (2, [.ref l0, .ref l1, .ref l2, .ref l3, .ref l4, .ref l5, .ref l6, .int 0, .int 0, .int 0, .int 0, .int 0])), (l3, .inr (1, [.ref s1, t1, .int 1])), (s1, .inl (k 1, 1000, .inl f1)), (l4, .inr (1, [.ref s2, t2, .int 1])), (s2, .inl (k 1, 1000, .inl f2))] := hD
  refine lv_aload_n hx hb dX3_clear_5 rfl (lv_at hl 0 rfl) ?_
  refine lv_iconst (v := 0) hx hb dX3_clear_6 (by decide) ?_
  refine va_put (ci := 2) (v := .int 0) (ty := .int) (C := RX3) (T := TX3) (N := 12) hx hb hts inX3 tyX3 tyX3_ok nmX3 hown hK hP hD hS 0 rfl rfl 8 (by decide) lf49 (fun _ h9 => h9) rfl (by decide +kernel) rfl rfl (Nat.le_of_ble_eq_true rfl) dX3_clear_7 (fun H locs hP hD hS => ?_)
  have hP : va_P D vwCl [(h0, .inr (2, [.ref l0, .ref l1, .ref l2, .ref l3, .ref l4, .ref l5, .ref l6, .int 0, .int 0, .int 0, .int 0, .int 0])), (l3, .inr (1, [.ref s1, t1, .int 1])), (s1, .inl (k 1, 1000, .inl f1)), (l4, .inr (1, [.ref s2, t2, .int 1])), (s2, .inl (k 1, 1000, .inl f2))] H := hP
  have hD : va_D A [(h0, .inr (2, [.ref l0, .ref l1, .ref l2, .ref l3, .ref l4, .ref l5, .ref l6, .int 0, .int 0, .int 0, .int 0, .int 0])), (l3, .inr (1, [.ref s1, t1, .int 1])), (s1, .inl (k 1, 1000, .inl f1)), (l4, .inr (1, [.ref s2, t2, .int 1])), (s2, .inl (k 1, 1000, .inl f2))] := hD
  refine lv_aload_n hx hb dX3_clear_10 rfl (lv_at hl 0 rfl) ?_
  refine lv_iconst (v := 0) hx hb dX3_clear_11 (by decide) ?_
  refine va_put (ci := 2) (v := .int 0) (ty := .int) (C := RX3) (T := TX3) (N := 12) hx hb hts inX3 tyX3 tyX3_ok nmX3 hown hK hP hD hS 0 rfl rfl 9 (by decide) lf52 (fun _ h9 => h9) rfl (by decide +kernel) rfl rfl (Nat.le_of_ble_eq_true rfl) dX3_clear_12 (fun H locs hP hD hS => ?_)
  have hP : va_P D vwCl [(h0, .inr (2, [.ref l0, .ref l1, .ref l2, .ref l3, .ref l4, .ref l5, .ref l6, .int 0, .int 0, .int 0, .int 0, .int 0])), (l3, .inr (1, [.ref s1, t1, .int 1])), (s1, .inl (k 1, 1000, .inl f1)), (l4, .inr (1, [.ref s2, t2, .int 1])), (s2, .inl (k 1, 1000, .inl f2))] H := hP
  have hD : va_D A [(h0, .inr (2, [.ref l0, .ref l1, .ref l2, .ref l3, .ref l4, .ref l5, .ref l6, .int 0, .int 0, .int 0, .int 0, .int 0])), (l3, .inr (1, [.ref s1, t1, .int 1])), (s1, .inl (k 1, 1000, .inl f1)), (l4, .inr (1, [.ref s2, t2, .int 1])), (s2, .inl (k 1, 1000, .inl f2))] := hD
  refine lv_aload_n hx hb dX3_clear_15 rfl (lv_at hl 0 rfl) ?_
  refine lv_iconst (v := 0) hx hb dX3_clear_16 (by decide) ?_
  refine va_put (ci := 2) (v := .int 0) (ty := .int) (C := RX3) (T := TX3) (N := 12) hx hb hts inX3 tyX3 tyX3_ok nmX3 hown hK hP hD hS 0 rfl rfl 10 (by decide) lf55 (fun _ h9 => h9) rfl (by decide +kernel) rfl rfl (Nat.le_of_ble_eq_true rfl) dX3_clear_17 (fun H locs hP hD hS => ?_)
  have hP : va_P D vwCl [(h0, .inr (2, [.ref l0, .ref l1, .ref l2, .ref l3, .ref l4, .ref l5, .ref l6, .int 0, .int 0, .int 0, .int 0, .int 0])), (l3, .inr (1, [.ref s1, t1, .int 1])), (s1, .inl (k 1, 1000, .inl f1)), (l4, .inr (1, [.ref s2, t2, .int 1])), (s2, .inl (k 1, 1000, .inl f2))] H := hP
  have hD : va_D A [(h0, .inr (2, [.ref l0, .ref l1, .ref l2, .ref l3, .ref l4, .ref l5, .ref l6, .int 0, .int 0, .int 0, .int 0, .int 0])), (l3, .inr (1, [.ref s1, t1, .int 1])), (s1, .inl (k 1, 1000, .inl f1)), (l4, .inr (1, [.ref s2, t2, .int 1])), (s2, .inl (k 1, 1000, .inl f2))] := hD
  refine lv_aload_n hx hb dX3_clear_20 rfl (lv_at hl 0 rfl) ?_
  refine lv_iconst (v := 0) hx hb dX3_clear_21 (by decide) ?_
  refine va_put (ci := 2) (v := .int 0) (ty := .int) (C := RX3) (T := TX3) (N := 12) hx hb hts inX3 tyX3 tyX3_ok nmX3 hown hK hP hD hS 0 rfl rfl 11 (by decide) lf58 (fun _ h9 => h9) rfl (by decide +kernel) rfl rfl (Nat.le_of_ble_eq_true rfl) dX3_clear_22 (fun H locs hP hD hS => ?_)
  have hP : va_P D vwCl [(h0, .inr (2, [.ref l0, .ref l1, .ref l2, .ref l3, .ref l4, .ref l5, .ref l6, .int 0, .int 0, .int 0, .int 0, .int 0])), (l3, .inr (1, [.ref s1, t1, .int 1])), (s1, .inl (k 1, 1000, .inl f1)), (l4, .inr (1, [.ref s2, t2, .int 1])), (s2, .inl (k 1, 1000, .inl f2))] H := hP
  have hD : va_D A [(h0, .inr (2, [.ref l0, .ref l1, .ref l2, .ref l3, .ref l4, .ref l5, .ref l6, .int 0, .int 0, .int 0, .int 0, .int 0])), (l3, .inr (1, [.ref s1, t1, .int 1])), (s1, .inl (k 1, 1000, .inl f1)), (l4, .inr (1, [.ref s2, t2, .int 1])), (s2, .inl (k 1, 1000, .inl f2))] := hD
  refine lv_aload_n hx hb dX3_clear_25 rfl (lv_at hl 0 rfl) ?_
  refine va_get (ci := 2) (v := .ref l3) (C := RX3) (T := TX3) (N := 12) hx hb hts inX3 hown hK hP 0 rfl rfl 3 (by decide) lf27 (fun _ h9 => h9) rfl dX3_clear_26 ?_
  refine p_jv (wr := [(h0, .inr (2, [.ref l0, .ref l1, .ref l2, .ref l3, .ref l4, .ref l5, .ref l6, .int 0, .int 0, .int 0, .int 0, .int 0])), (s1, .inl (k 1, 1000, .inl f1)), (l4, .inr (1, [.ref s2, t2, .int 1])), (s2, .inl (k 1, 1000, .inl f2))]) (va_runV (As := []) (rest := []) ⟨hx, hb, hml, hown, hts⟩ (c_Formula_clear l D k _ l3 (.ref s1) t1 (.int 1)) (cwV 0 hts pg_Land_clear_0 rfl rfl rfl (by decide +kernel) ⟨Nat.le_of_ble_eq_true rfl, Nat.le_of_ble_eq_true rfl⟩) (pV hK hN hP hD [1] rfl (by decide) rfl 1 rfl rfl) rfl rfl hl.1 rfl (lv_room (Nat.le_of_ble_eq_true rfl)) dX3_clear_29 ⟨by decide, by decide⟩) hP hD hS hA [1] [0, 2, 3, 4] rfl rfl (by decide) (by decide) (fun ux1 H locs wx2 hP hD hS => ?_)
  have hP : va_P D vwCl [(h0, .inr (2, [.ref l0, .ref l1, .ref l2, .ref l3, .ref l4, .ref l5, .ref l6, .int 0, .int 0, .int 0, .int 0, .int 0])), (s1, .inl (k 1, 1000, .inl f1)), (l4, .inr (1, [.ref s2, t2, .int 1])), (s2, .inl (k 1, 1000, .inl f2)), (l3, .inr (1, [.ref s1, t1, .int 0]))] H := hP
  have hD : va_D A [(h0, .inr (2, [.ref l0, .ref l1, .ref l2, .ref l3, .ref l4, .ref l5, .ref l6, .int 0, .int 0, .int 0, .int 0, .int 0])), (s1, .inl (k 1, 1000, .inl f1)), (l4, .inr (1, [.ref s2, t2, .int 1])), (s2, .inl (k 1, 1000, .inl f2)), (l3, .inr (1, [.ref s1, t1, .int 0]))] := hD
  refine lv_aload_n hx hb dX3_clear_32 rfl (lv_at hl 0 rfl) ?_
  refine va_get (ci := 2) (v := .ref l3) (C := RX3) (T := TX3) (N := 12) hx hb hts inX3 hown hK hP 0 rfl rfl 3 (by decide) lf27 (fun _ h9 => h9) rfl dX3_clear_33 ?_
  refine lv_iconst (v := 1) hx hb dX3_clear_36 (by decide) ?_
  refine p_jv (wr := [(h0, .inr (2, [.ref l0, .ref l1, .ref l2, .ref l3, .ref l4, .ref l5, .ref l6, .int 0, .int 0, .int 0, .int 0, .int 0])), (l4, .inr (1, [.ref s2, t2, .int 1])), (s2, .inl (k 1, 1000, .inl f2))]) (va_runV (As := [.int 1]) (rest := []) ⟨hx, hb, hml, hown, hts⟩ (c_Formula_add l D k _ l3 s1 t1 1 f1) (cwV 1 hts pg_Land_clear_1 rfl rfl rfl (by decide +kernel) ⟨Nat.le_of_ble_eq_true rfl, Nat.le_of_ble_eq_true rfl⟩) (pV hK hN hP hD [4, 1] rfl (by decide) rfl 4 rfl rfl) rfl rfl hl.1 rfl (lv_room (Nat.le_of_ble_eq_true rfl)) dX3_clear_37 ⟨by decide, by decide⟩) hP hD hS hA [4, 1] [0, 2, 3] rfl rfl (by decide) (by decide) (fun ux4 H locs wx5 hP hD hS => ?_)
  obtain ⟨g_x7, rfl⟩ : ∃ z, z = ux4 := ⟨_, rfl⟩
  have hP : va_P D vwCl [(h0, .inr (2, [.ref l0, .ref l1, .ref l2, .ref l3, .ref l4, .ref l5, .ref l6, .int 0, .int 0, .int 0, .int 0, .int 0])), (l4, .inr (1, [.ref s2, t2, .int 1])), (s2, .inl (k 1, 1000, .inl f2)), (l3, .inr (1, [.ref s1, t1, .int 1])), (s1, .inl (k 1, 1000, .inl g_x7))] H := hP
  have hD : va_D A [(h0, .inr (2, [.ref l0, .ref l1, .ref l2, .ref l3, .ref l4, .ref l5, .ref l6, .int 0, .int 0, .int 0, .int 0, .int 0])), (l4, .inr (1, [.ref s2, t2, .int 1])), (s2, .inl (k 1, 1000, .inl f2)), (l3, .inr (1, [.ref s1, t1, .int 1])), (s1, .inl (k 1, 1000, .inl g_x7))] := hD
  refine lv_aload_n hx hb dX3_clear_40 rfl (lv_at hl 0 rfl) ?_
  refine va_get (ci := 2) (v := .ref l4) (C := RX3) (T := TX3) (N := 12) hx hb hts inX3 hown hK hP 0 rfl rfl 4 (by decide) lf31 (fun _ h9 => h9) rfl dX3_clear_41 ?_
  refine p_jv (wr := [(h0, .inr (2, [.ref l0, .ref l1, .ref l2, .ref l3, .ref l4, .ref l5, .ref l6, .int 0, .int 0, .int 0, .int 0, .int 0])), (s2, .inl (k 1, 1000, .inl f2)), (l3, .inr (1, [.ref s1, t1, .int 1])), (s1, .inl (k 1, 1000, .inl g_x7))]) (va_runV (As := []) (rest := []) ⟨hx, hb, hml, hown, hts⟩ (c_Formula_clear l D k _ l4 (.ref s2) t2 (.int 1)) (cwV 0 hts pg_Land_clear_0 rfl rfl rfl (by decide +kernel) ⟨Nat.le_of_ble_eq_true rfl, Nat.le_of_ble_eq_true rfl⟩) (pV hK hN hP hD [1] rfl (by decide) rfl 1 rfl rfl) rfl rfl hl.1 rfl (lv_room (Nat.le_of_ble_eq_true rfl)) dX3_clear_44 ⟨by decide, by decide⟩) hP hD hS hA [1] [0, 2, 3, 4] rfl rfl (by decide) (by decide) (fun ux8 H locs wx9 hP hD hS => ?_)
  have hP : va_P D vwCl [(h0, .inr (2, [.ref l0, .ref l1, .ref l2, .ref l3, .ref l4, .ref l5, .ref l6, .int 0, .int 0, .int 0, .int 0, .int 0])), (s2, .inl (k 1, 1000, .inl f2)), (l3, .inr (1, [.ref s1, t1, .int 1])), (s1, .inl (k 1, 1000, .inl g_x7)), (l4, .inr (1, [.ref s2, t2, .int 0]))] H := hP
  have hD : va_D A [(h0, .inr (2, [.ref l0, .ref l1, .ref l2, .ref l3, .ref l4, .ref l5, .ref l6, .int 0, .int 0, .int 0, .int 0, .int 0])), (s2, .inl (k 1, 1000, .inl f2)), (l3, .inr (1, [.ref s1, t1, .int 1])), (s1, .inl (k 1, 1000, .inl g_x7)), (l4, .inr (1, [.ref s2, t2, .int 0]))] := hD
  refine lv_aload_n hx hb dX3_clear_47 rfl (lv_at hl 0 rfl) ?_
  refine va_get (ci := 2) (v := .ref l4) (C := RX3) (T := TX3) (N := 12) hx hb hts inX3 hown hK hP 0 rfl rfl 4 (by decide) lf31 (fun _ h9 => h9) rfl dX3_clear_48 ?_
  refine lv_iconst (v := 0) hx hb dX3_clear_51 (by decide) ?_
  refine p_jv (wr := [(h0, .inr (2, [.ref l0, .ref l1, .ref l2, .ref l3, .ref l4, .ref l5, .ref l6, .int 0, .int 0, .int 0, .int 0, .int 0])), (l3, .inr (1, [.ref s1, t1, .int 1])), (s1, .inl (k 1, 1000, .inl g_x7))]) (va_runV (As := [.int 0]) (rest := []) ⟨hx, hb, hml, hown, hts⟩ (c_Formula_add l D k _ l4 s2 t2 0 f2) (cwV 1 hts pg_Land_clear_1 rfl rfl rfl (by decide +kernel) ⟨Nat.le_of_ble_eq_true rfl, Nat.le_of_ble_eq_true rfl⟩) (pV hK hN hP hD [4, 1] rfl (by decide) rfl 4 rfl rfl) rfl rfl hl.1 rfl (lv_room (Nat.le_of_ble_eq_true rfl)) dX3_clear_52 ⟨by decide, by decide⟩) hP hD hS hA [4, 1] [0, 2, 3] rfl rfl (by decide) (by decide) (fun ux11 H locs wx12 hP hD hS => ?_)
  obtain ⟨g_x14, rfl⟩ : ∃ z, z = ux11 := ⟨_, rfl⟩
  have hP : va_P D vwCl [(h0, .inr (2, [.ref l0, .ref l1, .ref l2, .ref l3, .ref l4, .ref l5, .ref l6, .int 0, .int 0, .int 0, .int 0, .int 0])), (l3, .inr (1, [.ref s1, t1, .int 1])), (s1, .inl (k 1, 1000, .inl g_x7)), (l4, .inr (1, [.ref s2, t2, .int 1])), (s2, .inl (k 1, 1000, .inl g_x14))] H := hP
  have hD : va_D A [(h0, .inr (2, [.ref l0, .ref l1, .ref l2, .ref l3, .ref l4, .ref l5, .ref l6, .int 0, .int 0, .int 0, .int 0, .int 0])), (l3, .inr (1, [.ref s1, t1, .int 1])), (s1, .inl (k 1, 1000, .inl g_x7)), (l4, .inr (1, [.ref s2, t2, .int 1])), (s2, .inl (k 1, 1000, .inl g_x14))] := hD
  exact hret _ _ _ _ _ _ (g_x7, g_x14) (by decide) (by decide) dX3_clear_55 trivial (hP.sub [0, 1, 2, 3, 4] rfl) (hD.sub [0, 1, 2, 3, 4] (by decide) rfl) hS
def pw_Land_sumUp_0 : List Cond := .code yX3_sumUp cX3_sumUp 8 none :: ([.fieldLink RX3 37 "RiverVows$Land" "sums" "[I", .fieldLink RX3 45 "RiverVows$Land" "rivers" "I"] ++ wsX30)
set_option maxHeartbeats 4000000 in
set_option maxRecDepth 100000 in
theorem c_Land_sumUp_0 (l : Launch) (D : va_G) (k : Nat → ClassId) (sz : Nat) (h0 : Nat) (l0 : Nat) (l1 : Nat) (l2 : Nat) (l3 : Nat) (l4 : Nat) (l5 : Nat) (l6 : Nat) (f : Nat → Int32)  : pMv l yX3_sumUp pw_Land_sumUp_0 ({ frames := 0, cells := 0, slots := 0, locals := 0 }) D k [.ref h0, .int 0] [(h0, .inr (2, [.ref l0, .ref l1, .ref l2, .ref l3, .ref l4, .ref l5, .ref l6, .int 0, .int 0, .int 0, .int 0, .int 0])), (l6, .inl (k 1, 640, .inl f))] sz (S := (Nat → Int32)) (fun u => True) (fun u => [(h0, .inr (2, [.ref l0, .ref l1, .ref l2, .ref l3, .ref l4, .ref l5, .ref l6, .int 0, .int 0, .int 0, .int 0, .int 0])), (l6, .inl (k 1, 640, .inl u))]) 0 0 := by
  refine p_ofv (cc := cX3_sumUp) (maxL := 8) (by decide) rfl (Nat.le_of_ble_eq_true rfl) ?_
  intro p e s m below meth c hx hb hml hown hts hin hK hN A hA hP hD hS Q hret ls hl
  have hl : lv_has ls 8 [(0, .ref h0), (1, .int 0)] := hl
  have lf37 := hts (.fieldLink RX3 37 "RiverVows$Land" "sums" "[I") (by decide +kernel)
  have inX3 : ∀ w ∈ wsX30, w ∈ pw_Land_sumUp_0 := by decide +kernel
  have lf45 := hts (.fieldLink RX3 45 "RiverVows$Land" "rivers" "I") (by decide +kernel)
  refine lv_iload_n hx hb dX3_sumUp_0 rfl (lv_at hl 1 rfl) ?_
  refine lv_bipush (v := 64) hx hb dX3_sumUp_1 (by decide) ?_
  refine lv_imul hx hb dX3_sumUp_3 ?_
  refine p_topI (v := 0) (by decide) ?_
  refine lv_istore_n (lv' := [(2, .int 0), (0, .ref h0), (1, .int 0)]) hx hb dX3_sumUp_4 rfl hl (by decide) rfl (fun ls hl => ?_)
  refine lv_iload_n hx hb dX3_sumUp_5 rfl (lv_at hl 2 rfl) ?_
  refine lv_iconst (v := 4) hx hb dX3_sumUp_6 (by decide) ?_
  refine lv_iadd hx hb dX3_sumUp_7 ?_
  refine p_topI (v := 4) (by decide) ?_
  refine lv_bipush (v := 64) hx hb dX3_sumUp_8 (by decide) ?_
  refine lv_imul hx hb dX3_sumUp_10 ?_
  refine p_topI (v := 256) (by decide) ?_
  refine lv_istore_n (lv' := [(3, .int 256), (2, .int 0), (0, .ref h0), (1, .int 0)]) hx hb dX3_sumUp_11 rfl hl (by decide) rfl (fun ls hl => ?_)
  refine lv_aload_n hx hb dX3_sumUp_12 rfl (lv_at hl 2 rfl) ?_
  refine va_get (ci := 2) (v := .ref l6) (C := RX3) (T := TX3) (N := 12) hx hb hts inX3 hown hK hP 0 rfl rfl 6 (by decide) lf37 (fun _ h9 => h9) rfl dX3_sumUp_13 ?_
  refine lv_iload_n hx hb dX3_sumUp_16 rfl (lv_at hl 1 rfl) ?_
  refine lv_iconst (v := 0) hx hb dX3_sumUp_17 (by decide) ?_
  refine va_iast hx hb hK hP hD hS 1 1 rfl rfl (show ¬ (_ ∨ _) by decide) dX3_sumUp_18 (fun H locs hP hD hS => ?_)
  obtain ⟨fx1, hP, hD⟩ : ∃ fx1, va_P D vwCl [(h0, .inr (2, [.ref l0, .ref l1, .ref l2, .ref l3, .ref l4, .ref l5, .ref l6, .int 0, .int 0, .int 0, .int 0, .int 0])), (l6, .inl (k 1, 640, .inl fx1))] H ∧ va_D A [(h0, .inr (2, [.ref l0, .ref l1, .ref l2, .ref l3, .ref l4, .ref l5, .ref l6, .int 0, .int 0, .int 0, .int 0, .int 0])), (l6, .inl (k 1, 640, .inl fx1))] := ⟨_, hP, hD⟩
  refine lv_aload_n hx hb dX3_sumUp_19 rfl (lv_at hl 2 rfl) ?_
  refine va_get (ci := 2) (v := .ref l6) (C := RX3) (T := TX3) (N := 12) hx hb hts inX3 hown hK hP 0 rfl rfl 6 (by decide) lf37 (fun _ h9 => h9) rfl dX3_sumUp_20 ?_
  refine lv_iload_n hx hb dX3_sumUp_23 rfl (lv_at hl 0 rfl) ?_
  refine lv_iconst (v := 0) hx hb dX3_sumUp_24 (by decide) ?_
  refine va_iast hx hb hK hP hD hS 1 1 rfl rfl (show ¬ (_ ∨ _) by decide) dX3_sumUp_25 (fun H locs hP hD hS => ?_)
  obtain ⟨fx2, hP, hD⟩ : ∃ fx2, va_P D vwCl [(h0, .inr (2, [.ref l0, .ref l1, .ref l2, .ref l3, .ref l4, .ref l5, .ref l6, .int 0, .int 0, .int 0, .int 0, .int 0])), (l6, .inl (k 1, 640, .inl fx2))] H ∧ va_D A [(h0, .inr (2, [.ref l0, .ref l1, .ref l2, .ref l3, .ref l4, .ref l5, .ref l6, .int 0, .int 0, .int 0, .int 0, .int 0])), (l6, .inl (k 1, 640, .inl fx2))] := ⟨_, hP, hD⟩
  refine lv_iconst (v := 0) hx hb dX3_sumUp_26 (by decide) ?_
  refine lv_istore (lv' := [(4, .int 0), (3, .int 256), (2, .int 0), (0, .ref h0), (1, .int 0)]) hx hb dX3_sumUp_27 hl (by decide) rfl (fun ls hl => ?_)
  refine lv_iload hx hb dX3_sumUp_29 (lv_at hl 0 rfl) ?_
  refine lv_aload_n hx hb dX3_sumUp_31 rfl (lv_at hl 3 rfl) ?_
  refine va_get (ci := 2) (v := .int 0) (C := RX3) (T := TX3) (N := 12) hx hb hts inX3 hown hK hP 0 rfl rfl 7 (by decide) lf45 (fun _ h9 => h9) rfl dX3_sumUp_32 ?_
  refine lv_icmp_ge (tgt := 129) hx hb dX3_sumUp_35 (by decide) (fun cx3 => ?_) (fun h9 => absurd (by decide) h9)
  exact hret _ _ _ _ _ _ fx2 (by decide) (by decide) dX3_sumUp_129 trivial (hP.sub [0, 1] rfl) (hD.sub [0, 1] (by decide) rfl) hS
def pw_Land_sumUp_1 : List Cond := .code yX3_sumUp cX3_sumUp 8 none :: ([.fieldLink RX3 37 "RiverVows$Land" "sums" "[I", .fieldLink RX3 45 "RiverVows$Land" "rivers" "I"] ++ wsX30)
set_option maxHeartbeats 4000000 in
set_option maxRecDepth 100000 in
theorem c_Land_sumUp_1 (l : Launch) (D : va_G) (k : Nat → ClassId) (sz : Nat) (h0 : Nat) (l0 : Nat) (l1 : Nat) (l2 : Nat) (l3 : Nat) (l4 : Nat) (l5 : Nat) (l6 : Nat) (f : Nat → Int32)  : pMv l yX3_sumUp pw_Land_sumUp_1 ({ frames := 0, cells := 0, slots := 0, locals := 0 }) D k [.ref h0, .int 1] [(h0, .inr (2, [.ref l0, .ref l1, .ref l2, .ref l3, .ref l4, .ref l5, .ref l6, .int 0, .int 0, .int 0, .int 0, .int 0])), (l6, .inl (k 1, 640, .inl f))] sz (S := (Nat → Int32)) (fun u => True) (fun u => [(h0, .inr (2, [.ref l0, .ref l1, .ref l2, .ref l3, .ref l4, .ref l5, .ref l6, .int 0, .int 0, .int 0, .int 0, .int 0])), (l6, .inl (k 1, 640, .inl u))]) 0 0 := by
  refine p_ofv (cc := cX3_sumUp) (maxL := 8) (by decide) rfl (Nat.le_of_ble_eq_true rfl) ?_
  intro p e s m below meth c hx hb hml hown hts hin hK hN A hA hP hD hS Q hret ls hl
  have hl : lv_has ls 8 [(0, .ref h0), (1, .int 1)] := hl
  have lf37 := hts (.fieldLink RX3 37 "RiverVows$Land" "sums" "[I") (by decide +kernel)
  have inX3 : ∀ w ∈ wsX30, w ∈ pw_Land_sumUp_1 := by decide +kernel
  have lf45 := hts (.fieldLink RX3 45 "RiverVows$Land" "rivers" "I") (by decide +kernel)
  refine lv_iload_n hx hb dX3_sumUp_0 rfl (lv_at hl 1 rfl) ?_
  refine lv_bipush (v := 64) hx hb dX3_sumUp_1 (by decide) ?_
  refine lv_imul hx hb dX3_sumUp_3 ?_
  refine p_topI (v := 64) (by decide) ?_
  refine lv_istore_n (lv' := [(2, .int 64), (0, .ref h0), (1, .int 1)]) hx hb dX3_sumUp_4 rfl hl (by decide) rfl (fun ls hl => ?_)
  refine lv_iload_n hx hb dX3_sumUp_5 rfl (lv_at hl 2 rfl) ?_
  refine lv_iconst (v := 4) hx hb dX3_sumUp_6 (by decide) ?_
  refine lv_iadd hx hb dX3_sumUp_7 ?_
  refine p_topI (v := 5) (by decide) ?_
  refine lv_bipush (v := 64) hx hb dX3_sumUp_8 (by decide) ?_
  refine lv_imul hx hb dX3_sumUp_10 ?_
  refine p_topI (v := 320) (by decide) ?_
  refine lv_istore_n (lv' := [(3, .int 320), (2, .int 64), (0, .ref h0), (1, .int 1)]) hx hb dX3_sumUp_11 rfl hl (by decide) rfl (fun ls hl => ?_)
  refine lv_aload_n hx hb dX3_sumUp_12 rfl (lv_at hl 2 rfl) ?_
  refine va_get (ci := 2) (v := .ref l6) (C := RX3) (T := TX3) (N := 12) hx hb hts inX3 hown hK hP 0 rfl rfl 6 (by decide) lf37 (fun _ h9 => h9) rfl dX3_sumUp_13 ?_
  refine lv_iload_n hx hb dX3_sumUp_16 rfl (lv_at hl 1 rfl) ?_
  refine lv_iconst (v := 0) hx hb dX3_sumUp_17 (by decide) ?_
  refine va_iast hx hb hK hP hD hS 1 1 rfl rfl (show ¬ (_ ∨ _) by decide) dX3_sumUp_18 (fun H locs hP hD hS => ?_)
  obtain ⟨fx1, hP, hD⟩ : ∃ fx1, va_P D vwCl [(h0, .inr (2, [.ref l0, .ref l1, .ref l2, .ref l3, .ref l4, .ref l5, .ref l6, .int 0, .int 0, .int 0, .int 0, .int 0])), (l6, .inl (k 1, 640, .inl fx1))] H ∧ va_D A [(h0, .inr (2, [.ref l0, .ref l1, .ref l2, .ref l3, .ref l4, .ref l5, .ref l6, .int 0, .int 0, .int 0, .int 0, .int 0])), (l6, .inl (k 1, 640, .inl fx1))] := ⟨_, hP, hD⟩
  refine lv_aload_n hx hb dX3_sumUp_19 rfl (lv_at hl 2 rfl) ?_
  refine va_get (ci := 2) (v := .ref l6) (C := RX3) (T := TX3) (N := 12) hx hb hts inX3 hown hK hP 0 rfl rfl 6 (by decide) lf37 (fun _ h9 => h9) rfl dX3_sumUp_20 ?_
  refine lv_iload_n hx hb dX3_sumUp_23 rfl (lv_at hl 0 rfl) ?_
  refine lv_iconst (v := 0) hx hb dX3_sumUp_24 (by decide) ?_
  refine va_iast hx hb hK hP hD hS 1 1 rfl rfl (show ¬ (_ ∨ _) by decide) dX3_sumUp_25 (fun H locs hP hD hS => ?_)
  obtain ⟨fx2, hP, hD⟩ : ∃ fx2, va_P D vwCl [(h0, .inr (2, [.ref l0, .ref l1, .ref l2, .ref l3, .ref l4, .ref l5, .ref l6, .int 0, .int 0, .int 0, .int 0, .int 0])), (l6, .inl (k 1, 640, .inl fx2))] H ∧ va_D A [(h0, .inr (2, [.ref l0, .ref l1, .ref l2, .ref l3, .ref l4, .ref l5, .ref l6, .int 0, .int 0, .int 0, .int 0, .int 0])), (l6, .inl (k 1, 640, .inl fx2))] := ⟨_, hP, hD⟩
  refine lv_iconst (v := 0) hx hb dX3_sumUp_26 (by decide) ?_
  refine lv_istore (lv' := [(4, .int 0), (3, .int 320), (2, .int 64), (0, .ref h0), (1, .int 1)]) hx hb dX3_sumUp_27 hl (by decide) rfl (fun ls hl => ?_)
  refine lv_iload hx hb dX3_sumUp_29 (lv_at hl 0 rfl) ?_
  refine lv_aload_n hx hb dX3_sumUp_31 rfl (lv_at hl 3 rfl) ?_
  refine va_get (ci := 2) (v := .int 0) (C := RX3) (T := TX3) (N := 12) hx hb hts inX3 hown hK hP 0 rfl rfl 7 (by decide) lf45 (fun _ h9 => h9) rfl dX3_sumUp_32 ?_
  refine lv_icmp_ge (tgt := 129) hx hb dX3_sumUp_35 (by decide) (fun cx3 => ?_) (fun h9 => absurd (by decide) h9)
  exact hret _ _ _ _ _ _ fx2 (by decide) (by decide) dX3_sumUp_129 trivial (hP.sub [0, 1] rfl) (hD.sub [0, 1] (by decide) rfl) hS
def pw_Land_sumUp_2 : List Cond := .code yX3_sumUp cX3_sumUp 8 none :: ([.fieldLink RX3 37 "RiverVows$Land" "sums" "[I", .fieldLink RX3 45 "RiverVows$Land" "rivers" "I"] ++ wsX30)
set_option maxHeartbeats 4000000 in
set_option maxRecDepth 100000 in
theorem c_Land_sumUp_2 (l : Launch) (D : va_G) (k : Nat → ClassId) (sz : Nat) (h0 : Nat) (l0 : Nat) (l1 : Nat) (l2 : Nat) (l3 : Nat) (l4 : Nat) (l5 : Nat) (l6 : Nat) (f : Nat → Int32)  : pMv l yX3_sumUp pw_Land_sumUp_2 ({ frames := 0, cells := 0, slots := 0, locals := 0 }) D k [.ref h0, .int 2] [(h0, .inr (2, [.ref l0, .ref l1, .ref l2, .ref l3, .ref l4, .ref l5, .ref l6, .int 0, .int 0, .int 0, .int 0, .int 0])), (l6, .inl (k 1, 640, .inl f))] sz (S := (Nat → Int32)) (fun u => True) (fun u => [(h0, .inr (2, [.ref l0, .ref l1, .ref l2, .ref l3, .ref l4, .ref l5, .ref l6, .int 0, .int 0, .int 0, .int 0, .int 0])), (l6, .inl (k 1, 640, .inl u))]) 0 0 := by
  refine p_ofv (cc := cX3_sumUp) (maxL := 8) (by decide) rfl (Nat.le_of_ble_eq_true rfl) ?_
  intro p e s m below meth c hx hb hml hown hts hin hK hN A hA hP hD hS Q hret ls hl
  have hl : lv_has ls 8 [(0, .ref h0), (1, .int 2)] := hl
  have lf37 := hts (.fieldLink RX3 37 "RiverVows$Land" "sums" "[I") (by decide +kernel)
  have inX3 : ∀ w ∈ wsX30, w ∈ pw_Land_sumUp_2 := by decide +kernel
  have lf45 := hts (.fieldLink RX3 45 "RiverVows$Land" "rivers" "I") (by decide +kernel)
  refine lv_iload_n hx hb dX3_sumUp_0 rfl (lv_at hl 1 rfl) ?_
  refine lv_bipush (v := 64) hx hb dX3_sumUp_1 (by decide) ?_
  refine lv_imul hx hb dX3_sumUp_3 ?_
  refine p_topI (v := 128) (by decide) ?_
  refine lv_istore_n (lv' := [(2, .int 128), (0, .ref h0), (1, .int 2)]) hx hb dX3_sumUp_4 rfl hl (by decide) rfl (fun ls hl => ?_)
  refine lv_iload_n hx hb dX3_sumUp_5 rfl (lv_at hl 2 rfl) ?_
  refine lv_iconst (v := 4) hx hb dX3_sumUp_6 (by decide) ?_
  refine lv_iadd hx hb dX3_sumUp_7 ?_
  refine p_topI (v := 6) (by decide) ?_
  refine lv_bipush (v := 64) hx hb dX3_sumUp_8 (by decide) ?_
  refine lv_imul hx hb dX3_sumUp_10 ?_
  refine p_topI (v := 384) (by decide) ?_
  refine lv_istore_n (lv' := [(3, .int 384), (2, .int 128), (0, .ref h0), (1, .int 2)]) hx hb dX3_sumUp_11 rfl hl (by decide) rfl (fun ls hl => ?_)
  refine lv_aload_n hx hb dX3_sumUp_12 rfl (lv_at hl 2 rfl) ?_
  refine va_get (ci := 2) (v := .ref l6) (C := RX3) (T := TX3) (N := 12) hx hb hts inX3 hown hK hP 0 rfl rfl 6 (by decide) lf37 (fun _ h9 => h9) rfl dX3_sumUp_13 ?_
  refine lv_iload_n hx hb dX3_sumUp_16 rfl (lv_at hl 1 rfl) ?_
  refine lv_iconst (v := 0) hx hb dX3_sumUp_17 (by decide) ?_
  refine va_iast hx hb hK hP hD hS 1 1 rfl rfl (show ¬ (_ ∨ _) by decide) dX3_sumUp_18 (fun H locs hP hD hS => ?_)
  obtain ⟨fx1, hP, hD⟩ : ∃ fx1, va_P D vwCl [(h0, .inr (2, [.ref l0, .ref l1, .ref l2, .ref l3, .ref l4, .ref l5, .ref l6, .int 0, .int 0, .int 0, .int 0, .int 0])), (l6, .inl (k 1, 640, .inl fx1))] H ∧ va_D A [(h0, .inr (2, [.ref l0, .ref l1, .ref l2, .ref l3, .ref l4, .ref l5, .ref l6, .int 0, .int 0, .int 0, .int 0, .int 0])), (l6, .inl (k 1, 640, .inl fx1))] := ⟨_, hP, hD⟩
  refine lv_aload_n hx hb dX3_sumUp_19 rfl (lv_at hl 2 rfl) ?_
  refine va_get (ci := 2) (v := .ref l6) (C := RX3) (T := TX3) (N := 12) hx hb hts inX3 hown hK hP 0 rfl rfl 6 (by decide) lf37 (fun _ h9 => h9) rfl dX3_sumUp_20 ?_
  refine lv_iload_n hx hb dX3_sumUp_23 rfl (lv_at hl 0 rfl) ?_
  refine lv_iconst (v := 0) hx hb dX3_sumUp_24 (by decide) ?_
  refine va_iast hx hb hK hP hD hS 1 1 rfl rfl (show ¬ (_ ∨ _) by decide) dX3_sumUp_25 (fun H locs hP hD hS => ?_)
  obtain ⟨fx2, hP, hD⟩ : ∃ fx2, va_P D vwCl [(h0, .inr (2, [.ref l0, .ref l1, .ref l2, .ref l3, .ref l4, .ref l5, .ref l6, .int 0, .int 0, .int 0, .int 0, .int 0])), (l6, .inl (k 1, 640, .inl fx2))] H ∧ va_D A [(h0, .inr (2, [.ref l0, .ref l1, .ref l2, .ref l3, .ref l4, .ref l5, .ref l6, .int 0, .int 0, .int 0, .int 0, .int 0])), (l6, .inl (k 1, 640, .inl fx2))] := ⟨_, hP, hD⟩
  refine lv_iconst (v := 0) hx hb dX3_sumUp_26 (by decide) ?_
  refine lv_istore (lv' := [(4, .int 0), (3, .int 384), (2, .int 128), (0, .ref h0), (1, .int 2)]) hx hb dX3_sumUp_27 hl (by decide) rfl (fun ls hl => ?_)
  refine lv_iload hx hb dX3_sumUp_29 (lv_at hl 0 rfl) ?_
  refine lv_aload_n hx hb dX3_sumUp_31 rfl (lv_at hl 3 rfl) ?_
  refine va_get (ci := 2) (v := .int 0) (C := RX3) (T := TX3) (N := 12) hx hb hts inX3 hown hK hP 0 rfl rfl 7 (by decide) lf45 (fun _ h9 => h9) rfl dX3_sumUp_32 ?_
  refine lv_icmp_ge (tgt := 129) hx hb dX3_sumUp_35 (by decide) (fun cx3 => ?_) (fun h9 => absurd (by decide) h9)
  exact hret _ _ _ _ _ _ fx2 (by decide) (by decide) dX3_sumUp_129 trivial (hP.sub [0, 1] rfl) (hD.sub [0, 1] (by decide) rfl) hS
def pw_Land_sumUp_3 : List Cond := .code yX3_sumUp cX3_sumUp 8 none :: ([.fieldLink RX3 37 "RiverVows$Land" "sums" "[I", .fieldLink RX3 45 "RiverVows$Land" "rivers" "I"] ++ wsX30)
set_option maxHeartbeats 4000000 in
set_option maxRecDepth 100000 in
theorem c_Land_sumUp_3 (l : Launch) (D : va_G) (k : Nat → ClassId) (sz : Nat) (h0 : Nat) (l0 : Nat) (l1 : Nat) (l2 : Nat) (l3 : Nat) (l4 : Nat) (l5 : Nat) (l6 : Nat) (f : Nat → Int32)  : pMv l yX3_sumUp pw_Land_sumUp_3 ({ frames := 0, cells := 0, slots := 0, locals := 0 }) D k [.ref h0, .int 3] [(h0, .inr (2, [.ref l0, .ref l1, .ref l2, .ref l3, .ref l4, .ref l5, .ref l6, .int 0, .int 0, .int 0, .int 0, .int 0])), (l6, .inl (k 1, 640, .inl f))] sz (S := (Nat → Int32)) (fun u => True) (fun u => [(h0, .inr (2, [.ref l0, .ref l1, .ref l2, .ref l3, .ref l4, .ref l5, .ref l6, .int 0, .int 0, .int 0, .int 0, .int 0])), (l6, .inl (k 1, 640, .inl u))]) 0 0 := by
  refine p_ofv (cc := cX3_sumUp) (maxL := 8) (by decide) rfl (Nat.le_of_ble_eq_true rfl) ?_
  intro p e s m below meth c hx hb hml hown hts hin hK hN A hA hP hD hS Q hret ls hl
  have hl : lv_has ls 8 [(0, .ref h0), (1, .int 3)] := hl
  have lf37 := hts (.fieldLink RX3 37 "RiverVows$Land" "sums" "[I") (by decide +kernel)
  have inX3 : ∀ w ∈ wsX30, w ∈ pw_Land_sumUp_3 := by decide +kernel
  have lf45 := hts (.fieldLink RX3 45 "RiverVows$Land" "rivers" "I") (by decide +kernel)
  refine lv_iload_n hx hb dX3_sumUp_0 rfl (lv_at hl 1 rfl) ?_
  refine lv_bipush (v := 64) hx hb dX3_sumUp_1 (by decide) ?_
  refine lv_imul hx hb dX3_sumUp_3 ?_
  refine p_topI (v := 192) (by decide) ?_
  refine lv_istore_n (lv' := [(2, .int 192), (0, .ref h0), (1, .int 3)]) hx hb dX3_sumUp_4 rfl hl (by decide) rfl (fun ls hl => ?_)
  refine lv_iload_n hx hb dX3_sumUp_5 rfl (lv_at hl 2 rfl) ?_
  refine lv_iconst (v := 4) hx hb dX3_sumUp_6 (by decide) ?_
  refine lv_iadd hx hb dX3_sumUp_7 ?_
  refine p_topI (v := 7) (by decide) ?_
  refine lv_bipush (v := 64) hx hb dX3_sumUp_8 (by decide) ?_
  refine lv_imul hx hb dX3_sumUp_10 ?_
  refine p_topI (v := 448) (by decide) ?_
  refine lv_istore_n (lv' := [(3, .int 448), (2, .int 192), (0, .ref h0), (1, .int 3)]) hx hb dX3_sumUp_11 rfl hl (by decide) rfl (fun ls hl => ?_)
  refine lv_aload_n hx hb dX3_sumUp_12 rfl (lv_at hl 2 rfl) ?_
  refine va_get (ci := 2) (v := .ref l6) (C := RX3) (T := TX3) (N := 12) hx hb hts inX3 hown hK hP 0 rfl rfl 6 (by decide) lf37 (fun _ h9 => h9) rfl dX3_sumUp_13 ?_
  refine lv_iload_n hx hb dX3_sumUp_16 rfl (lv_at hl 1 rfl) ?_
  refine lv_iconst (v := 0) hx hb dX3_sumUp_17 (by decide) ?_
  refine va_iast hx hb hK hP hD hS 1 1 rfl rfl (show ¬ (_ ∨ _) by decide) dX3_sumUp_18 (fun H locs hP hD hS => ?_)
  obtain ⟨fx1, hP, hD⟩ : ∃ fx1, va_P D vwCl [(h0, .inr (2, [.ref l0, .ref l1, .ref l2, .ref l3, .ref l4, .ref l5, .ref l6, .int 0, .int 0, .int 0, .int 0, .int 0])), (l6, .inl (k 1, 640, .inl fx1))] H ∧ va_D A [(h0, .inr (2, [.ref l0, .ref l1, .ref l2, .ref l3, .ref l4, .ref l5, .ref l6, .int 0, .int 0, .int 0, .int 0, .int 0])), (l6, .inl (k 1, 640, .inl fx1))] := ⟨_, hP, hD⟩
  refine lv_aload_n hx hb dX3_sumUp_19 rfl (lv_at hl 2 rfl) ?_
  refine va_get (ci := 2) (v := .ref l6) (C := RX3) (T := TX3) (N := 12) hx hb hts inX3 hown hK hP 0 rfl rfl 6 (by decide) lf37 (fun _ h9 => h9) rfl dX3_sumUp_20 ?_
  refine lv_iload_n hx hb dX3_sumUp_23 rfl (lv_at hl 0 rfl) ?_
  refine lv_iconst (v := 0) hx hb dX3_sumUp_24 (by decide) ?_
  refine va_iast hx hb hK hP hD hS 1 1 rfl rfl (show ¬ (_ ∨ _) by decide) dX3_sumUp_25 (fun H locs hP hD hS => ?_)
  obtain ⟨fx2, hP, hD⟩ : ∃ fx2, va_P D vwCl [(h0, .inr (2, [.ref l0, .ref l1, .ref l2, .ref l3, .ref l4, .ref l5, .ref l6, .int 0, .int 0, .int 0, .int 0, .int 0])), (l6, .inl (k 1, 640, .inl fx2))] H ∧ va_D A [(h0, .inr (2, [.ref l0, .ref l1, .ref l2, .ref l3, .ref l4, .ref l5, .ref l6, .int 0, .int 0, .int 0, .int 0, .int 0])), (l6, .inl (k 1, 640, .inl fx2))] := ⟨_, hP, hD⟩
  refine lv_iconst (v := 0) hx hb dX3_sumUp_26 (by decide) ?_
  refine lv_istore (lv' := [(4, .int 0), (3, .int 448), (2, .int 192), (0, .ref h0), (1, .int 3)]) hx hb dX3_sumUp_27 hl (by decide) rfl (fun ls hl => ?_)
  refine lv_iload hx hb dX3_sumUp_29 (lv_at hl 0 rfl) ?_
  refine lv_aload_n hx hb dX3_sumUp_31 rfl (lv_at hl 3 rfl) ?_
  refine va_get (ci := 2) (v := .int 0) (C := RX3) (T := TX3) (N := 12) hx hb hts inX3 hown hK hP 0 rfl rfl 7 (by decide) lf45 (fun _ h9 => h9) rfl dX3_sumUp_32 ?_
  refine lv_icmp_ge (tgt := 129) hx hb dX3_sumUp_35 (by decide) (fun cx3 => ?_) (fun h9 => absurd (by decide) h9)
  exact hret _ _ _ _ _ _ fx2 (by decide) (by decide) dX3_sumUp_129 trivial (hP.sub [0, 1] rfl) (hD.sub [0, 1] (by decide) rfl) hS
def pw_Land_compareSeasons : List Cond := .code yX3_compareSeasons cX3_compareSeasons 5 none :: ([.fieldLink RX3 45 "RiverVows$Land" "rivers" "I", .fieldLink RX3 37 "RiverVows$Land" "sums" "[I", .methodLink RX3 94 Lib.Math.min.name, .static Lib.Math.min.name, .initialized "java/lang/Math", .code Lib.Math.min.name Lib.Math.min.code 2 (some .int), .methodLink RX3 99 Lib.Math.max.name, .static Lib.Math.max.name, .code Lib.Math.max.name Lib.Math.max.code 2 (some .int)] ++ wsX30)
set_option maxHeartbeats 4000000 in
set_option maxRecDepth 100000 in
theorem c_Land_compareSeasons (l : Launch) (D : va_G) (k : Nat → ClassId) (sz : Nat) (h0 : Nat) (l0 : Nat) (l1 : Nat) (l2 : Nat) (l3 : Nat) (l4 : Nat) (l5 : Nat) (l6 : Nat) (f : Nat → Int32)  : pMv l yX3_compareSeasons pw_Land_compareSeasons ({ frames := 1, cells := 0, slots := 0, locals := 30 }) D k [.ref h0] [(h0, .inr (2, [.ref l0, .ref l1, .ref l2, .ref l3, .ref l4, .ref l5, .ref l6, .int 0, .int 0, .int 0, .int 0, .int 0])), (l6, .inl (k 1, 640, .inl f))] sz (S := (Nat → Int32)) (fun u => True) (fun u => [(h0, .inr (2, [.ref l0, .ref l1, .ref l2, .ref l3, .ref l4, .ref l5, .ref l6, .int 0, .int 0, .int 0, .int 0, .int 0])), (l6, .inl (k 1, 640, .inl u))]) 0 0 := by
  refine p_ofv (cc := cX3_compareSeasons) (maxL := 5) (by decide) rfl (Nat.le_of_ble_eq_true rfl) ?_
  intro p e s m below meth c hx hb hml hown hts hin hK hN A hA hP hD hS Q hret ls hl
  have hl : lv_has ls 5 [(0, .ref h0)] := hl
  have lf45 := hts (.fieldLink RX3 45 "RiverVows$Land" "rivers" "I") (by decide +kernel)
  have inX3 : ∀ w ∈ wsX30, w ∈ pw_Land_compareSeasons := by decide +kernel
  have lf37 := hts (.fieldLink RX3 37 "RiverVows$Land" "sums" "[I") (by decide +kernel)
  have ml94 := hts (.methodLink RX3 94 Lib.Math.min.name) (by decide +kernel)
  have msmin := hts (.static Lib.Math.min.name) (by decide +kernel)
  have mini := hts (.initialized "java/lang/Math") (by decide +kernel)
  have mcmin := hts (.code Lib.Math.min.name Lib.Math.min.code 2 (some .int)) (by decide +kernel)
  have ml99 := hts (.methodLink RX3 99 Lib.Math.max.name) (by decide +kernel)
  have msmax := hts (.static Lib.Math.max.name) (by decide +kernel)
  have mcmax := hts (.code Lib.Math.max.name Lib.Math.max.code 2 (some .int)) (by decide +kernel)
  refine lv_iconst (v := 0) hx hb dX3_compareSeasons_0 (by decide) ?_
  refine lv_istore_n (lv' := [(1, .int 0), (0, .ref h0)]) hx hb dX3_compareSeasons_1 rfl hl (by decide) rfl (fun ls hl => ?_)
  refine lv_iload_n hx hb dX3_compareSeasons_2 rfl (lv_at hl 0 rfl) ?_
  refine lv_iconst (v := 1) hx hb dX3_compareSeasons_3 (by decide) ?_
  refine lv_aload_n hx hb dX3_compareSeasons_4 rfl (lv_at hl 1 rfl) ?_
  refine va_get (ci := 2) (v := .int 0) (C := RX3) (T := TX3) (N := 12) hx hb hts inX3 hown hK hP 0 rfl rfl 7 (by decide) lf45 (fun _ h9 => h9) rfl dX3_compareSeasons_5 ?_
  refine lv_ishl hx hb dX3_compareSeasons_8 ?_
  refine p_topI (v := 1) (by decide) ?_
  refine lv_icmp_ge (tgt := 103) hx hb dX3_compareSeasons_9 (by decide) (fun h9 => absurd h9 (by decide)) (fun cx1 => ?_)
  refine lv_aload_n hx hb dX3_compareSeasons_12 rfl (lv_at hl 1 rfl) ?_
  refine va_get (ci := 2) (v := .ref l6) (C := RX3) (T := TX3) (N := 12) hx hb hts inX3 hown hK hP 0 rfl rfl 6 (by decide) lf37 (fun _ h9 => h9) rfl dX3_compareSeasons_13 ?_
  refine lv_iload_n hx hb dX3_compareSeasons_16 rfl (lv_at hl 0 rfl) ?_
  refine va_iald hx hb hK hP 1 1 rfl rfl (show ¬ (_ ∨ _) by decide) dX3_compareSeasons_17 ?_
  refine p_topI (v := (f 0)) rfl ?_
  refine lv_istore_n (lv' := [(2, .int (f 0)), (1, .int 0), (0, .ref h0)]) hx hb dX3_compareSeasons_18 rfl hl (by decide) rfl (fun ls hl => ?_)
  refine lv_aload_n hx hb dX3_compareSeasons_19 rfl (lv_at hl 2 rfl) ?_
  refine va_get (ci := 2) (v := .ref l6) (C := RX3) (T := TX3) (N := 12) hx hb hts inX3 hown hK hP 0 rfl rfl 6 (by decide) lf37 (fun _ h9 => h9) rfl dX3_compareSeasons_20 ?_
  refine lv_iload_n hx hb dX3_compareSeasons_23 rfl (lv_at hl 1 rfl) ?_
  refine va_iald hx hb hK hP 1 1 rfl rfl (show ¬ (_ ∨ _) by decide) dX3_compareSeasons_24 ?_
  refine p_topI (v := (f 0)) rfl ?_
  refine lv_istore_n (lv' := [(3, .int (f 0)), (2, .int (f 0)), (1, .int 0), (0, .ref h0)]) hx hb dX3_compareSeasons_25 rfl hl (by decide) rfl (fun ls hl => ?_)
  refine lv_iconst (v := 1) hx hb dX3_compareSeasons_26 (by decide) ?_
  refine lv_istore (lv' := [(4, .int 1), (3, .int (f 0)), (2, .int (f 0)), (1, .int 0), (0, .ref h0)]) hx hb dX3_compareSeasons_27 hl (by decide) rfl (fun ls hl => ?_)
  refine lv_iload hx hb dX3_compareSeasons_29 (lv_at hl 0 rfl) ?_
  refine lv_iconst (v := 4) hx hb dX3_compareSeasons_31 (by decide) ?_
  refine lv_icmp_ge (tgt := 75) hx hb dX3_compareSeasons_32 (by decide) (fun h9 => absurd h9 (by decide)) (fun cx2 => ?_)
  refine lv_iload_n hx hb dX3_compareSeasons_35 rfl (lv_at hl 2 rfl) ?_
  refine lv_aload_n hx hb dX3_compareSeasons_36 rfl (lv_at hl 4 rfl) ?_
  refine va_get (ci := 2) (v := .ref l6) (C := RX3) (T := TX3) (N := 12) hx hb hts inX3 hown hK hP 0 rfl rfl 6 (by decide) lf37 (fun _ h9 => h9) rfl dX3_compareSeasons_37 ?_
  refine lv_iload hx hb dX3_compareSeasons_40 (lv_at hl 0 rfl) ?_
  refine lv_bipush (v := 64) hx hb dX3_compareSeasons_42 (by decide) ?_
  refine lv_imul hx hb dX3_compareSeasons_44 ?_
  refine p_topI (v := 64) (by decide) ?_
  refine lv_iload_n hx hb dX3_compareSeasons_45 rfl (lv_at hl 3 rfl) ?_
  refine lv_iadd hx hb dX3_compareSeasons_46 ?_
  refine p_topI (v := 64) (by decide) ?_
  refine va_iald hx hb hK hP 1 1 rfl rfl (show ¬ (_ ∨ _) by decide) dX3_compareSeasons_47 ?_
  refine p_topI (v := (f 64)) rfl ?_
  refine va_mmin hx hb (hml.trans hl.1.symm) hown ml94 msmin mini mcmin (Nat.le_of_ble_eq_true rfl) (Nat.le_of_ble_eq_true rfl) (Nat.le_of_ble_eq_true rfl) (Nat.le_of_ble_eq_true rfl) dX3_compareSeasons_48 ?_
  refine lv_topi (fun vx3 evx3 => ?_)
  clear evx3
  refine lv_istore_n (lv' := [(2, .int vx3), (4, .int 1), (3, .int (f 0)), (1, .int 0), (0, .ref h0)]) hx hb dX3_compareSeasons_51 rfl hl (by decide) rfl (fun ls hl => ?_)
  refine lv_iload_n hx hb dX3_compareSeasons_52 rfl (lv_at hl 2 rfl) ?_
  refine lv_aload_n hx hb dX3_compareSeasons_53 rfl (lv_at hl 4 rfl) ?_
  refine va_get (ci := 2) (v := .ref l6) (C := RX3) (T := TX3) (N := 12) hx hb hts inX3 hown hK hP 0 rfl rfl 6 (by decide) lf37 (fun _ h9 => h9) rfl dX3_compareSeasons_54 ?_
  refine lv_iload hx hb dX3_compareSeasons_57 (lv_at hl 1 rfl) ?_
  refine lv_bipush (v := 64) hx hb dX3_compareSeasons_59 (by decide) ?_
  refine lv_imul hx hb dX3_compareSeasons_61 ?_
  refine p_topI (v := 64) (by decide) ?_
  refine lv_iload_n hx hb dX3_compareSeasons_62 rfl (lv_at hl 3 rfl) ?_
  refine lv_iadd hx hb dX3_compareSeasons_63 ?_
  refine p_topI (v := 64) (by decide) ?_
  refine va_iald hx hb hK hP 1 1 rfl rfl (show ¬ (_ ∨ _) by decide) dX3_compareSeasons_64 ?_
  refine p_topI (v := (f 64)) rfl ?_
  refine va_mmax hx hb (hml.trans hl.1.symm) hown ml99 msmax mini mcmax (Nat.le_of_ble_eq_true rfl) (Nat.le_of_ble_eq_true rfl) (Nat.le_of_ble_eq_true rfl) (Nat.le_of_ble_eq_true rfl) dX3_compareSeasons_65 ?_
  refine lv_topi (fun vx4 evx4 => ?_)
  clear evx4
  refine lv_istore_n (lv' := [(3, .int vx4), (2, .int vx3), (4, .int 1), (1, .int 0), (0, .ref h0)]) hx hb dX3_compareSeasons_68 rfl hl (by decide) rfl (fun ls hl => ?_)
  refine lv_iinc (v := 2) (lv' := [(4, .int 2), (3, .int vx4), (2, .int vx3), (1, .int 0), (0, .ref h0)]) hx hb dX3_compareSeasons_69 hl (k := 2) rfl (by decide) (by decide) rfl (fun ls hl => ?_)
  refine lv_goto (tgt := 29) hx hb dX3_compareSeasons_72 (by decide) ?_
  refine lv_iload hx hb dX3_compareSeasons_29 (lv_at hl 0 rfl) ?_
  refine lv_iconst (v := 4) hx hb dX3_compareSeasons_31 (by decide) ?_
  refine lv_icmp_ge (tgt := 75) hx hb dX3_compareSeasons_32 (by decide) (fun h9 => absurd h9 (by decide)) (fun cx5 => ?_)
  refine lv_iload_n hx hb dX3_compareSeasons_35 rfl (lv_at hl 2 rfl) ?_
  refine lv_aload_n hx hb dX3_compareSeasons_36 rfl (lv_at hl 4 rfl) ?_
  refine va_get (ci := 2) (v := .ref l6) (C := RX3) (T := TX3) (N := 12) hx hb hts inX3 hown hK hP 0 rfl rfl 6 (by decide) lf37 (fun _ h9 => h9) rfl dX3_compareSeasons_37 ?_
  refine lv_iload hx hb dX3_compareSeasons_40 (lv_at hl 0 rfl) ?_
  refine lv_bipush (v := 64) hx hb dX3_compareSeasons_42 (by decide) ?_
  refine lv_imul hx hb dX3_compareSeasons_44 ?_
  refine p_topI (v := 128) (by decide) ?_
  refine lv_iload_n hx hb dX3_compareSeasons_45 rfl (lv_at hl 3 rfl) ?_
  refine lv_iadd hx hb dX3_compareSeasons_46 ?_
  refine p_topI (v := 128) (by decide) ?_
  refine va_iald hx hb hK hP 1 1 rfl rfl (show ¬ (_ ∨ _) by decide) dX3_compareSeasons_47 ?_
  refine p_topI (v := (f 128)) rfl ?_
  refine va_mmin hx hb (hml.trans hl.1.symm) hown ml94 msmin mini mcmin (Nat.le_of_ble_eq_true rfl) (Nat.le_of_ble_eq_true rfl) (Nat.le_of_ble_eq_true rfl) (Nat.le_of_ble_eq_true rfl) dX3_compareSeasons_48 ?_
  refine lv_topi (fun vx6 evx6 => ?_)
  clear evx6
  refine lv_istore_n (lv' := [(2, .int vx6), (4, .int 2), (3, .int vx4), (1, .int 0), (0, .ref h0)]) hx hb dX3_compareSeasons_51 rfl hl (by decide) rfl (fun ls hl => ?_)
  refine lv_iload_n hx hb dX3_compareSeasons_52 rfl (lv_at hl 2 rfl) ?_
  refine lv_aload_n hx hb dX3_compareSeasons_53 rfl (lv_at hl 4 rfl) ?_
  refine va_get (ci := 2) (v := .ref l6) (C := RX3) (T := TX3) (N := 12) hx hb hts inX3 hown hK hP 0 rfl rfl 6 (by decide) lf37 (fun _ h9 => h9) rfl dX3_compareSeasons_54 ?_
  refine lv_iload hx hb dX3_compareSeasons_57 (lv_at hl 1 rfl) ?_
  refine lv_bipush (v := 64) hx hb dX3_compareSeasons_59 (by decide) ?_
  refine lv_imul hx hb dX3_compareSeasons_61 ?_
  refine p_topI (v := 128) (by decide) ?_
  refine lv_iload_n hx hb dX3_compareSeasons_62 rfl (lv_at hl 3 rfl) ?_
  refine lv_iadd hx hb dX3_compareSeasons_63 ?_
  refine p_topI (v := 128) (by decide) ?_
  refine va_iald hx hb hK hP 1 1 rfl rfl (show ¬ (_ ∨ _) by decide) dX3_compareSeasons_64 ?_
  refine p_topI (v := (f 128)) rfl ?_
  refine va_mmax hx hb (hml.trans hl.1.symm) hown ml99 msmax mini mcmax (Nat.le_of_ble_eq_true rfl) (Nat.le_of_ble_eq_true rfl) (Nat.le_of_ble_eq_true rfl) (Nat.le_of_ble_eq_true rfl) dX3_compareSeasons_65 ?_
  refine lv_topi (fun vx7 evx7 => ?_)
  clear evx7
  refine lv_istore_n (lv' := [(3, .int vx7), (2, .int vx6), (4, .int 2), (1, .int 0), (0, .ref h0)]) hx hb dX3_compareSeasons_68 rfl hl (by decide) rfl (fun ls hl => ?_)
  refine lv_iinc (v := 3) (lv' := [(4, .int 3), (3, .int vx7), (2, .int vx6), (1, .int 0), (0, .ref h0)]) hx hb dX3_compareSeasons_69 hl (k := 2) rfl (by decide) (by decide) rfl (fun ls hl => ?_)
  refine lv_goto (tgt := 29) hx hb dX3_compareSeasons_72 (by decide) ?_
  refine lv_iload hx hb dX3_compareSeasons_29 (lv_at hl 0 rfl) ?_
  refine lv_iconst (v := 4) hx hb dX3_compareSeasons_31 (by decide) ?_
  refine lv_icmp_ge (tgt := 75) hx hb dX3_compareSeasons_32 (by decide) (fun h9 => absurd h9 (by decide)) (fun cx8 => ?_)
  refine lv_iload_n hx hb dX3_compareSeasons_35 rfl (lv_at hl 2 rfl) ?_
  refine lv_aload_n hx hb dX3_compareSeasons_36 rfl (lv_at hl 4 rfl) ?_
  refine va_get (ci := 2) (v := .ref l6) (C := RX3) (T := TX3) (N := 12) hx hb hts inX3 hown hK hP 0 rfl rfl 6 (by decide) lf37 (fun _ h9 => h9) rfl dX3_compareSeasons_37 ?_
  refine lv_iload hx hb dX3_compareSeasons_40 (lv_at hl 0 rfl) ?_
  refine lv_bipush (v := 64) hx hb dX3_compareSeasons_42 (by decide) ?_
  refine lv_imul hx hb dX3_compareSeasons_44 ?_
  refine p_topI (v := 192) (by decide) ?_
  refine lv_iload_n hx hb dX3_compareSeasons_45 rfl (lv_at hl 3 rfl) ?_
  refine lv_iadd hx hb dX3_compareSeasons_46 ?_
  refine p_topI (v := 192) (by decide) ?_
  refine va_iald hx hb hK hP 1 1 rfl rfl (show ¬ (_ ∨ _) by decide) dX3_compareSeasons_47 ?_
  refine p_topI (v := (f 192)) rfl ?_
  refine va_mmin hx hb (hml.trans hl.1.symm) hown ml94 msmin mini mcmin (Nat.le_of_ble_eq_true rfl) (Nat.le_of_ble_eq_true rfl) (Nat.le_of_ble_eq_true rfl) (Nat.le_of_ble_eq_true rfl) dX3_compareSeasons_48 ?_
  refine lv_topi (fun vx9 evx9 => ?_)
  clear evx9
  refine lv_istore_n (lv' := [(2, .int vx9), (4, .int 3), (3, .int vx7), (1, .int 0), (0, .ref h0)]) hx hb dX3_compareSeasons_51 rfl hl (by decide) rfl (fun ls hl => ?_)
  refine lv_iload_n hx hb dX3_compareSeasons_52 rfl (lv_at hl 2 rfl) ?_
  refine lv_aload_n hx hb dX3_compareSeasons_53 rfl (lv_at hl 4 rfl) ?_
  refine va_get (ci := 2) (v := .ref l6) (C := RX3) (T := TX3) (N := 12) hx hb hts inX3 hown hK hP 0 rfl rfl 6 (by decide) lf37 (fun _ h9 => h9) rfl dX3_compareSeasons_54 ?_
  refine lv_iload hx hb dX3_compareSeasons_57 (lv_at hl 1 rfl) ?_
  refine lv_bipush (v := 64) hx hb dX3_compareSeasons_59 (by decide) ?_
  refine lv_imul hx hb dX3_compareSeasons_61 ?_
  refine p_topI (v := 192) (by decide) ?_
  refine lv_iload_n hx hb dX3_compareSeasons_62 rfl (lv_at hl 3 rfl) ?_
  refine lv_iadd hx hb dX3_compareSeasons_63 ?_
  refine p_topI (v := 192) (by decide) ?_
  refine va_iald hx hb hK hP 1 1 rfl rfl (show ¬ (_ ∨ _) by decide) dX3_compareSeasons_64 ?_
  refine p_topI (v := (f 192)) rfl ?_
  refine va_mmax hx hb (hml.trans hl.1.symm) hown ml99 msmax mini mcmax (Nat.le_of_ble_eq_true rfl) (Nat.le_of_ble_eq_true rfl) (Nat.le_of_ble_eq_true rfl) (Nat.le_of_ble_eq_true rfl) dX3_compareSeasons_65 ?_
  refine lv_topi (fun vx10 evx10 => ?_)
  clear evx10
  refine lv_istore_n (lv' := [(3, .int vx10), (2, .int vx9), (4, .int 3), (1, .int 0), (0, .ref h0)]) hx hb dX3_compareSeasons_68 rfl hl (by decide) rfl (fun ls hl => ?_)
  refine lv_iinc (v := 4) (lv' := [(4, .int 4), (3, .int vx10), (2, .int vx9), (1, .int 0), (0, .ref h0)]) hx hb dX3_compareSeasons_69 hl (k := 2) rfl (by decide) (by decide) rfl (fun ls hl => ?_)
  refine lv_goto (tgt := 29) hx hb dX3_compareSeasons_72 (by decide) ?_
  refine lv_iload hx hb dX3_compareSeasons_29 (lv_at hl 0 rfl) ?_
  refine lv_iconst (v := 4) hx hb dX3_compareSeasons_31 (by decide) ?_
  refine lv_icmp_ge (tgt := 75) hx hb dX3_compareSeasons_32 (by decide) (fun cx11 => ?_) (fun h9 => absurd (by decide) h9)
  refine lv_aload_n hx hb dX3_compareSeasons_75 rfl (lv_at hl 4 rfl) ?_
  refine va_get (ci := 2) (v := .ref l6) (C := RX3) (T := TX3) (N := 12) hx hb hts inX3 hown hK hP 0 rfl rfl 6 (by decide) lf37 (fun _ h9 => h9) rfl dX3_compareSeasons_76 ?_
  refine lv_sipush (v := 512) hx hb dX3_compareSeasons_79 (by decide) ?_
  refine lv_iload_n hx hb dX3_compareSeasons_82 rfl (lv_at hl 3 rfl) ?_
  refine lv_iadd hx hb dX3_compareSeasons_83 ?_
  refine p_topI (v := 512) (by decide) ?_
  refine lv_iload_n hx hb dX3_compareSeasons_84 rfl (lv_at hl 2 rfl) ?_
  refine va_iast hx hb hK hP hD hS 1 1 rfl rfl (show ¬ (_ ∨ _) by decide) dX3_compareSeasons_85 (fun H locs hP hD hS => ?_)
  obtain ⟨fx12, hP, hD⟩ : ∃ fx12, va_P D vwCl [(h0, .inr (2, [.ref l0, .ref l1, .ref l2, .ref l3, .ref l4, .ref l5, .ref l6, .int 0, .int 0, .int 0, .int 0, .int 0])), (l6, .inl (k 1, 640, .inl fx12))] H ∧ va_D A [(h0, .inr (2, [.ref l0, .ref l1, .ref l2, .ref l3, .ref l4, .ref l5, .ref l6, .int 0, .int 0, .int 0, .int 0, .int 0])), (l6, .inl (k 1, 640, .inl fx12))] := ⟨_, hP, hD⟩
  refine lv_aload_n hx hb dX3_compareSeasons_86 rfl (lv_at hl 4 rfl) ?_
  refine va_get (ci := 2) (v := .ref l6) (C := RX3) (T := TX3) (N := 12) hx hb hts inX3 hown hK hP 0 rfl rfl 6 (by decide) lf37 (fun _ h9 => h9) rfl dX3_compareSeasons_87 ?_
  refine lv_sipush (v := 576) hx hb dX3_compareSeasons_90 (by decide) ?_
  refine lv_iload_n hx hb dX3_compareSeasons_93 rfl (lv_at hl 3 rfl) ?_
  refine lv_iadd hx hb dX3_compareSeasons_94 ?_
  refine p_topI (v := 576) (by decide) ?_
  refine lv_iload_n hx hb dX3_compareSeasons_95 rfl (lv_at hl 1 rfl) ?_
  refine va_iast hx hb hK hP hD hS 1 1 rfl rfl (show ¬ (_ ∨ _) by decide) dX3_compareSeasons_96 (fun H locs hP hD hS => ?_)
  obtain ⟨fx13, hP, hD⟩ : ∃ fx13, va_P D vwCl [(h0, .inr (2, [.ref l0, .ref l1, .ref l2, .ref l3, .ref l4, .ref l5, .ref l6, .int 0, .int 0, .int 0, .int 0, .int 0])), (l6, .inl (k 1, 640, .inl fx13))] H ∧ va_D A [(h0, .inr (2, [.ref l0, .ref l1, .ref l2, .ref l3, .ref l4, .ref l5, .ref l6, .int 0, .int 0, .int 0, .int 0, .int 0])), (l6, .inl (k 1, 640, .inl fx13))] := ⟨_, hP, hD⟩
  refine lv_iinc (v := 1) (lv' := [(1, .int 1), (4, .int 4), (3, .int vx10), (2, .int vx9), (0, .ref h0)]) hx hb dX3_compareSeasons_97 hl (k := 3) rfl (by decide) (by decide) rfl (fun ls hl => ?_)
  refine lv_goto (tgt := 2) hx hb dX3_compareSeasons_100 (by decide) ?_
  refine lv_iload_n hx hb dX3_compareSeasons_2 rfl (lv_at hl 0 rfl) ?_
  refine lv_iconst (v := 1) hx hb dX3_compareSeasons_3 (by decide) ?_
  refine lv_aload_n hx hb dX3_compareSeasons_4 rfl (lv_at hl 4 rfl) ?_
  refine va_get (ci := 2) (v := .int 0) (C := RX3) (T := TX3) (N := 12) hx hb hts inX3 hown hK hP 0 rfl rfl 7 (by decide) lf45 (fun _ h9 => h9) rfl dX3_compareSeasons_5 ?_
  refine lv_ishl hx hb dX3_compareSeasons_8 ?_
  refine p_topI (v := 1) (by decide) ?_
  refine lv_icmp_ge (tgt := 103) hx hb dX3_compareSeasons_9 (by decide) (fun cx14 => ?_) (fun h9 => absurd (by decide) h9)
  exact hret _ _ _ _ _ _ fx13 (by decide) (by decide) dX3_compareSeasons_103 trivial (hP.sub [0, 1] rfl) (hD.sub [0, 1] (by decide) rfl) hS
def pw_Land_settle : List Cond := .code yX3_settle cX3_settle 3 none :: ([.fieldLink RX3 45 "RiverVows$Land" "rivers" "I", .code yX3_sumUp cX3_sumUp 8 none, .fieldLink RX3 37 "RiverVows$Land" "sums" "[I", .methodLink RX3 72 yX3_sumUp, .instanceMethod yX3_sumUp, .selects RX3 yX3_sumUp yX3_sumUp, .initialized RX3, .code yX3_compareSeasons cX3_compareSeasons 5 none, .methodLink RX3 94 Lib.Math.min.name, .static Lib.Math.min.name, .initialized "java/lang/Math", .code Lib.Math.min.name Lib.Math.min.code 2 (some .int), .methodLink RX3 99 Lib.Math.max.name, .static Lib.Math.max.name, .code Lib.Math.max.name Lib.Math.max.code 2 (some .int), .methodLink RX3 75 yX3_compareSeasons, .instanceMethod yX3_compareSeasons, .selects RX3 yX3_compareSeasons yX3_compareSeasons] ++ wsX30)
set_option maxRecDepth 20000 in
theorem pg_Land_settle_0 : GoodIn pw_Land_settle (wsV RX3 72 RX3 yX3_sumUp pw_Land_sumUp_0) := goodIn_sub (by decide +kernel) (by decide +kernel)
set_option maxRecDepth 20000 in
theorem pg_Land_settle_1 : GoodIn pw_Land_settle (wsV RX3 72 RX3 yX3_sumUp pw_Land_sumUp_1) := goodIn_sub (by decide +kernel) (by decide +kernel)
set_option maxRecDepth 20000 in
theorem pg_Land_settle_2 : GoodIn pw_Land_settle (wsV RX3 72 RX3 yX3_sumUp pw_Land_sumUp_2) := goodIn_sub (by decide +kernel) (by decide +kernel)
set_option maxRecDepth 20000 in
theorem pg_Land_settle_3 : GoodIn pw_Land_settle (wsV RX3 72 RX3 yX3_sumUp pw_Land_sumUp_3) := goodIn_sub (by decide +kernel) (by decide +kernel)
set_option maxRecDepth 20000 in
theorem pg_Land_settle_4 : GoodIn pw_Land_settle (wsV RX3 75 RX3 yX3_compareSeasons pw_Land_compareSeasons) := goodIn_sub (by decide +kernel) (by decide +kernel)
set_option maxHeartbeats 4000000 in
set_option maxRecDepth 100000 in
theorem c_Land_settle (l : Launch) (D : va_G) (k : Nat → ClassId) (sz : Nat) (h0 : Nat) (l0 : Nat) (l1 : Nat) (l2 : Nat) (l3 : Nat) (l4 : Nat) (l5 : Nat) (l6 : Nat) (f : Nat → Int32)  : pMv l yX3_settle pw_Land_settle ({ frames := 2, cells := 0, slots := 0, locals := 54 }) D k [.ref h0] [(h0, .inr (2, [.ref l0, .ref l1, .ref l2, .ref l3, .ref l4, .ref l5, .ref l6, .int 0, .int 0, .int 0, .int 0, .int 0])), (l6, .inl (k 1, 640, .inl f))] sz (S := (Nat → Int32)) (fun u => True) (fun u => [(h0, .inr (2, [.ref l0, .ref l1, .ref l2, .ref l3, .ref l4, .ref l5, .ref l6, .int 0, .int 0, .int 0, .int 0, .int 0])), (l6, .inl (k 1, 640, .inl u))]) 0 0 := by
  refine p_ofv (cc := cX3_settle) (maxL := 3) (by decide) rfl (Nat.le_of_ble_eq_true rfl) ?_
  intro p e s m below meth c hx hb hml hown hts hin hK hN A hA hP hD hS Q hret ls hl
  have hl : lv_has ls 3 [(0, .ref h0)] := hl
  have lf45 := hts (.fieldLink RX3 45 "RiverVows$Land" "rivers" "I") (by decide +kernel)
  have inX3 : ∀ w ∈ wsX30, w ∈ pw_Land_settle := by decide +kernel
  refine lv_iconst (v := 0) hx hb dX3_settle_0 (by decide) ?_
  refine lv_istore_n (lv' := [(1, .int 0), (0, .ref h0)]) hx hb dX3_settle_1 rfl hl (by decide) rfl (fun ls hl => ?_)
  refine lv_iload_n hx hb dX3_settle_2 rfl (lv_at hl 0 rfl) ?_
  refine lv_aload_n hx hb dX3_settle_3 rfl (lv_at hl 1 rfl) ?_
  refine va_get (ci := 2) (v := .int 0) (C := RX3) (T := TX3) (N := 12) hx hb hts inX3 hown hK hP 0 rfl rfl 7 (by decide) lf45 (fun _ h9 => h9) rfl dX3_settle_4 ?_
  refine lv_icmp_ge (tgt := 60) hx hb dX3_settle_7 (by decide) (fun cx1 => ?_) (fun h9 => absurd (by decide) h9)
  refine lv_iconst (v := 0) hx hb dX3_settle_60 (by decide) ?_
  refine lv_istore_n (lv' := [(1, .int 0), (0, .ref h0)]) hx hb dX3_settle_61 rfl hl (by decide) rfl (fun ls hl => ?_)
  refine lv_iload_n hx hb dX3_settle_62 rfl (lv_at hl 0 rfl) ?_
  refine lv_iconst (v := 4) hx hb dX3_settle_63 (by decide) ?_
  refine lv_icmp_ge (tgt := 78) hx hb dX3_settle_64 (by decide) (fun h9 => absurd h9 (by decide)) (fun cx2 => ?_)
  refine lv_aload_n hx hb dX3_settle_67 rfl (lv_at hl 1 rfl) ?_
  refine lv_iload_n hx hb dX3_settle_68 rfl (lv_at hl 0 rfl) ?_
  refine p_jv (wr := []) (va_runV (As := [.int 0]) (rest := []) ⟨hx, hb, hml, hown, hts⟩ (c_Land_sumUp_0 l D k _ h0 l0 l1 l2 l3 l4 l5 l6 f) (cwV 1 hts pg_Land_settle_0 rfl rfl rfl (by decide +kernel) ⟨Nat.le_of_ble_eq_true rfl, Nat.le_of_ble_eq_true rfl⟩) (pV hK hN hP hD [0, 1] rfl (by decide) rfl 0 rfl rfl) rfl rfl hl.1 rfl (lv_room (Nat.le_of_ble_eq_true rfl)) dX3_settle_69 ⟨by decide, by decide⟩) hP hD hS hA [0, 1] [] rfl rfl (by decide) (by decide) (fun ux3 H locs wx4 hP hD hS => ?_)
  obtain ⟨g_x6, rfl⟩ : ∃ z, z = ux3 := ⟨_, rfl⟩
  have hP : va_P D vwCl [(h0, .inr (2, [.ref l0, .ref l1, .ref l2, .ref l3, .ref l4, .ref l5, .ref l6, .int 0, .int 0, .int 0, .int 0, .int 0])), (l6, .inl (k 1, 640, .inl g_x6))] H := hP
  have hD : va_D A [(h0, .inr (2, [.ref l0, .ref l1, .ref l2, .ref l3, .ref l4, .ref l5, .ref l6, .int 0, .int 0, .int 0, .int 0, .int 0])), (l6, .inl (k 1, 640, .inl g_x6))] := hD
  refine lv_iinc (v := 1) (lv' := [(1, .int 1), (0, .ref h0)]) hx hb dX3_settle_72 hl (k := 0) rfl (by decide) (by decide) rfl (fun ls hl => ?_)
  refine lv_goto (tgt := 62) hx hb dX3_settle_75 (by decide) ?_
  refine lv_iload_n hx hb dX3_settle_62 rfl (lv_at hl 0 rfl) ?_
  refine lv_iconst (v := 4) hx hb dX3_settle_63 (by decide) ?_
  refine lv_icmp_ge (tgt := 78) hx hb dX3_settle_64 (by decide) (fun h9 => absurd h9 (by decide)) (fun cx7 => ?_)
  refine lv_aload_n hx hb dX3_settle_67 rfl (lv_at hl 1 rfl) ?_
  refine lv_iload_n hx hb dX3_settle_68 rfl (lv_at hl 0 rfl) ?_
  refine p_jv (wr := []) (va_runV (As := [.int 1]) (rest := []) ⟨hx, hb, hml, hown, hts⟩ (c_Land_sumUp_1 l D k _ h0 l0 l1 l2 l3 l4 l5 l6 g_x6) (cwV 1 hts pg_Land_settle_1 rfl rfl rfl (by decide +kernel) ⟨Nat.le_of_ble_eq_true rfl, Nat.le_of_ble_eq_true rfl⟩) (pV hK hN hP hD [0, 1] rfl (by decide) rfl 0 rfl rfl) rfl rfl hl.1 rfl (lv_room (Nat.le_of_ble_eq_true rfl)) dX3_settle_69 ⟨by decide, by decide⟩) hP hD hS hA [0, 1] [] rfl rfl (by decide) (by decide) (fun ux8 H locs wx9 hP hD hS => ?_)
  obtain ⟨g_x11, rfl⟩ : ∃ z, z = ux8 := ⟨_, rfl⟩
  have hP : va_P D vwCl [(h0, .inr (2, [.ref l0, .ref l1, .ref l2, .ref l3, .ref l4, .ref l5, .ref l6, .int 0, .int 0, .int 0, .int 0, .int 0])), (l6, .inl (k 1, 640, .inl g_x11))] H := hP
  have hD : va_D A [(h0, .inr (2, [.ref l0, .ref l1, .ref l2, .ref l3, .ref l4, .ref l5, .ref l6, .int 0, .int 0, .int 0, .int 0, .int 0])), (l6, .inl (k 1, 640, .inl g_x11))] := hD
  refine lv_iinc (v := 2) (lv' := [(1, .int 2), (0, .ref h0)]) hx hb dX3_settle_72 hl (k := 0) rfl (by decide) (by decide) rfl (fun ls hl => ?_)
  refine lv_goto (tgt := 62) hx hb dX3_settle_75 (by decide) ?_
  refine lv_iload_n hx hb dX3_settle_62 rfl (lv_at hl 0 rfl) ?_
  refine lv_iconst (v := 4) hx hb dX3_settle_63 (by decide) ?_
  refine lv_icmp_ge (tgt := 78) hx hb dX3_settle_64 (by decide) (fun h9 => absurd h9 (by decide)) (fun cx12 => ?_)
  refine lv_aload_n hx hb dX3_settle_67 rfl (lv_at hl 1 rfl) ?_
  refine lv_iload_n hx hb dX3_settle_68 rfl (lv_at hl 0 rfl) ?_
  refine p_jv (wr := []) (va_runV (As := [.int 2]) (rest := []) ⟨hx, hb, hml, hown, hts⟩ (c_Land_sumUp_2 l D k _ h0 l0 l1 l2 l3 l4 l5 l6 g_x11) (cwV 1 hts pg_Land_settle_2 rfl rfl rfl (by decide +kernel) ⟨Nat.le_of_ble_eq_true rfl, Nat.le_of_ble_eq_true rfl⟩) (pV hK hN hP hD [0, 1] rfl (by decide) rfl 0 rfl rfl) rfl rfl hl.1 rfl (lv_room (Nat.le_of_ble_eq_true rfl)) dX3_settle_69 ⟨by decide, by decide⟩) hP hD hS hA [0, 1] [] rfl rfl (by decide) (by decide) (fun ux13 H locs wx14 hP hD hS => ?_)
  obtain ⟨g_x16, rfl⟩ : ∃ z, z = ux13 := ⟨_, rfl⟩
  have hP : va_P D vwCl [(h0, .inr (2, [.ref l0, .ref l1, .ref l2, .ref l3, .ref l4, .ref l5, .ref l6, .int 0, .int 0, .int 0, .int 0, .int 0])), (l6, .inl (k 1, 640, .inl g_x16))] H := hP
  have hD : va_D A [(h0, .inr (2, [.ref l0, .ref l1, .ref l2, .ref l3, .ref l4, .ref l5, .ref l6, .int 0, .int 0, .int 0, .int 0, .int 0])), (l6, .inl (k 1, 640, .inl g_x16))] := hD
  refine lv_iinc (v := 3) (lv' := [(1, .int 3), (0, .ref h0)]) hx hb dX3_settle_72 hl (k := 0) rfl (by decide) (by decide) rfl (fun ls hl => ?_)
  refine lv_goto (tgt := 62) hx hb dX3_settle_75 (by decide) ?_
  refine lv_iload_n hx hb dX3_settle_62 rfl (lv_at hl 0 rfl) ?_
  refine lv_iconst (v := 4) hx hb dX3_settle_63 (by decide) ?_
  refine lv_icmp_ge (tgt := 78) hx hb dX3_settle_64 (by decide) (fun h9 => absurd h9 (by decide)) (fun cx17 => ?_)
  refine lv_aload_n hx hb dX3_settle_67 rfl (lv_at hl 1 rfl) ?_
  refine lv_iload_n hx hb dX3_settle_68 rfl (lv_at hl 0 rfl) ?_
  refine p_jv (wr := []) (va_runV (As := [.int 3]) (rest := []) ⟨hx, hb, hml, hown, hts⟩ (c_Land_sumUp_3 l D k _ h0 l0 l1 l2 l3 l4 l5 l6 g_x16) (cwV 1 hts pg_Land_settle_3 rfl rfl rfl (by decide +kernel) ⟨Nat.le_of_ble_eq_true rfl, Nat.le_of_ble_eq_true rfl⟩) (pV hK hN hP hD [0, 1] rfl (by decide) rfl 0 rfl rfl) rfl rfl hl.1 rfl (lv_room (Nat.le_of_ble_eq_true rfl)) dX3_settle_69 ⟨by decide, by decide⟩) hP hD hS hA [0, 1] [] rfl rfl (by decide) (by decide) (fun ux18 H locs wx19 hP hD hS => ?_)
  obtain ⟨g_x21, rfl⟩ : ∃ z, z = ux18 := ⟨_, rfl⟩
  have hP : va_P D vwCl [(h0, .inr (2, [.ref l0, .ref l1, .ref l2, .ref l3, .ref l4, .ref l5, .ref l6, .int 0, .int 0, .int 0, .int 0, .int 0])), (l6, .inl (k 1, 640, .inl g_x21))] H := hP
  have hD : va_D A [(h0, .inr (2, [.ref l0, .ref l1, .ref l2, .ref l3, .ref l4, .ref l5, .ref l6, .int 0, .int 0, .int 0, .int 0, .int 0])), (l6, .inl (k 1, 640, .inl g_x21))] := hD
  refine lv_iinc (v := 4) (lv' := [(1, .int 4), (0, .ref h0)]) hx hb dX3_settle_72 hl (k := 0) rfl (by decide) (by decide) rfl (fun ls hl => ?_)
  refine lv_goto (tgt := 62) hx hb dX3_settle_75 (by decide) ?_
  refine lv_iload_n hx hb dX3_settle_62 rfl (lv_at hl 0 rfl) ?_
  refine lv_iconst (v := 4) hx hb dX3_settle_63 (by decide) ?_
  refine lv_icmp_ge (tgt := 78) hx hb dX3_settle_64 (by decide) (fun cx22 => ?_) (fun h9 => absurd (by decide) h9)
  refine lv_aload_n hx hb dX3_settle_78 rfl (lv_at hl 1 rfl) ?_
  refine p_jv (wr := []) (va_runV (As := []) (rest := []) ⟨hx, hb, hml, hown, hts⟩ (c_Land_compareSeasons l D k _ h0 l0 l1 l2 l3 l4 l5 l6 g_x21) (cwV 0 hts pg_Land_settle_4 rfl rfl rfl (by decide +kernel) ⟨Nat.le_of_ble_eq_true rfl, Nat.le_of_ble_eq_true rfl⟩) (pV hK hN hP hD [0, 1] rfl (by decide) rfl 0 rfl rfl) rfl rfl hl.1 rfl (lv_room (Nat.le_of_ble_eq_true rfl)) dX3_settle_79 ⟨by decide, by decide⟩) hP hD hS hA [0, 1] [] rfl rfl (by decide) (by decide) (fun ux23 H locs wx24 hP hD hS => ?_)
  obtain ⟨g_x26, rfl⟩ : ∃ z, z = ux23 := ⟨_, rfl⟩
  have hP : va_P D vwCl [(h0, .inr (2, [.ref l0, .ref l1, .ref l2, .ref l3, .ref l4, .ref l5, .ref l6, .int 0, .int 0, .int 0, .int 0, .int 0])), (l6, .inl (k 1, 640, .inl g_x26))] H := hP
  have hD : va_D A [(h0, .inr (2, [.ref l0, .ref l1, .ref l2, .ref l3, .ref l4, .ref l5, .ref l6, .int 0, .int 0, .int 0, .int 0, .int 0])), (l6, .inl (k 1, 640, .inl g_x26))] := hD
  exact hret _ _ _ _ _ _ g_x26 (by decide) (by decide) dX3_settle_82 trivial (hP.sub [0, 1] rfl) (hD.sub [0, 1] (by decide) rfl) hS
def pw_Land_all : List Cond := .code yX3_all cX3_all 1 (some .int) :: ([.fieldLink RX3 45 "RiverVows$Land" "rivers" "I"] ++ wsX30)
set_option maxHeartbeats 4000000 in
set_option maxRecDepth 100000 in
theorem c_Land_all (l : Launch) (D : va_G) (k : Nat → ClassId) (sz : Nat) (h0 : Nat) (l0 : Nat) (l1 : Nat) (l2 : Nat) (l3 : Nat) (l4 : Nat) (l5 : Nat) (l6 : Nat)  : pMi l yX3_all pw_Land_all ({ frames := 0, cells := 0, slots := 0, locals := 0 }) D k [.ref h0] [(h0, .inr (2, [.ref l0, .ref l1, .ref l2, .ref l3, .ref l4, .ref l5, .ref l6, .int 0, .int 0, .int 0, .int 0, .int 0]))] sz (S := Unit) (fun r u => r = 0) (fun u => [(h0, .inr (2, [.ref l0, .ref l1, .ref l2, .ref l3, .ref l4, .ref l5, .ref l6, .int 0, .int 0, .int 0, .int 0, .int 0]))]) 0 0 := by
  refine p_ofi (cc := cX3_all) (maxL := 1) (rt := .int) (by decide) rfl (Nat.le_of_ble_eq_true rfl) ?_
  intro p e s m below meth c hx hb hml hown hts hK hN A hA hP hD hS Q hret ls hl
  have hl : lv_has ls 1 [(0, .ref h0)] := hl
  have lf45 := hts (.fieldLink RX3 45 "RiverVows$Land" "rivers" "I") (by decide +kernel)
  have inX3 : ∀ w ∈ wsX30, w ∈ pw_Land_all := by decide +kernel
  refine lv_iconst (v := 1) hx hb dX3_all_0 (by decide) ?_
  refine lv_aload_n hx hb dX3_all_1 rfl (lv_at hl 0 rfl) ?_
  refine va_get (ci := 2) (v := .int 0) (C := RX3) (T := TX3) (N := 12) hx hb hts inX3 hown hK hP 0 rfl rfl 7 (by decide) lf45 (fun _ h9 => h9) rfl dX3_all_2 ?_
  refine lv_ishl hx hb dX3_all_5 ?_
  refine p_topI (v := 1) (by decide) ?_
  refine lv_iconst (v := 1) hx hb dX3_all_6 (by decide) ?_
  refine lv_isub hx hb dX3_all_7 ?_
  refine p_topI (v := 0) (by decide) ?_
  exact hret _ _ _ _ _ _ 0 () (by decide) (by decide) dX3_all_8 rfl rfl (hP.sub [0] rfl) (hD.sub [0] (by decide) rfl) hS
def pw_Reader_begin : List Cond := .code yX6_begin cX6_begin 2 none :: ([.fieldLink RX6 22 "RiverVows$Reader" "land" "LRiverVows$Land;", .fieldLink RX6 56 "RiverVows$Reader" "fault" "I", .fieldLink RX6 18 "RiverVows$Reader" "scan" "LRiverVows$Scanner;", .code yX8_begin cX8_begin 3 none, .fieldLink RX8 30 "RiverVows$Scanner" "tokens" "I", .fieldLink RX8 26 "RiverVows$Scanner" "length" "I", .code yX8_keep cX8_keep 5 none, .fieldLink RX8 15 "RiverVows$Scanner" "kinds" "[I", .fieldLink RX8 19 "RiverVows$Scanner" "starts" "[I", .fieldLink RX8 22 "RiverVows$Scanner" "keys" "[J", .methodLink RX8 37 yX8_keep, .instanceMethod yX8_keep, .selects RX8 yX8_keep yX8_keep, .initialized RX8, .fieldLink RX8 41 "RiverVows$Scanner" "next" "I", .code yX8_advance cX8_advance 2 none, .fieldLink RX8 47 "RiverVows$Scanner" "kind" "I", .fieldLink RX8 50 "RiverVows$Scanner" "start" "I", .fieldLink RX8 53 "RiverVows$Scanner" "key" "J", .fieldLink RX8 57 "RiverVows$Scanner" "letters" "I", .fieldLink RX8 60 "RiverVows$Scanner" "word" "LRiverVows$Word;", .methodLink RX8 44 yX8_advance, .instanceMethod yX8_advance, .selects RX8 yX8_advance yX8_advance, .methodLink RX6 74 yX8_begin, .instanceMethod yX8_begin, .selects RX8 yX8_begin yX8_begin] ++ wsX60 ++ wsX80)
set_option maxRecDepth 20000 in
theorem pg_Reader_begin_0 : GoodIn pw_Reader_begin (wsV RX6 74 RX8 yX8_begin pw_Scanner_begin) := goodIn_sub (by decide +kernel) (by decide +kernel)
set_option maxHeartbeats 4000000 in
set_option maxRecDepth 100000 in
theorem c_Reader_begin (l : Launch) (D : va_G) (k : Nat → ClassId) (sz : Nat) (r0 : Nat) (r1 : Nat) (r2 : Nat) (h0 : Nat) (k0 : Nat) (k1 : Nat) (k2 : Nat) (k3 : Nat) (ld : Nat) (x2 : Int32) (x3 : Int32) (xl : Value) (xf : Value) (x7 : Value) (x8 : Value) (x9 : Value) (x10 : Int32) (w5 : Int32) (w6 : Int32) (w7 : Int32) (w8 : Int32) (w9 : Int32) (w10 : Int64) (f1 : Nat → Int32) (f2 : Nat → Int32) (f3 : Nat → Int64)  : pMv l yX6_begin pw_Reader_begin ({ frames := 2, cells := 0, slots := 0, locals := 46 }) D k [.ref r0, .ref ld] [(r0, .inr (5, [.ref r1, .ref r2, .int x2, .int x3, .ref h0, xl, xf, x7, x8, x9, .int x10])), (h0, .inr (7, [.ref k0, .ref k1, .ref k2, .ref k3, .int w5, .int w6, .int 0, .int w7, .int w8, .int w9, .long w10, .null])), (k1, .inl (k 1, 1001, .inl f1)), (k2, .inl (k 1, 1001, .inl f2)), (k3, .inl (k 2, 1001, .inr (.inl f3)))] sz (S := Int32 × Int64 × (Nat → Int32) × (Nat → Int32) × (Nat → Int64)) (fun u => True) (fun u => [(r0, .inr (5, [.ref r1, .ref r2, .int x2, .int x3, .ref h0, .ref ld, xf, x7, x8, x9, .int 0])), (h0, .inr (7, [.ref k0, .ref k1, .ref k2, .ref k3, .int 1, .int 0, .int 0, .int 0, .int u.1, .int 0, .long u.2.1, .null])), (k1, .inl (k 1, 1001, .inl u.2.2.1)), (k2, .inl (k 1, 1001, .inl u.2.2.2.1)), (k3, .inl (k 2, 1001, .inr (.inl u.2.2.2.2)))]) 0 0 := by
  refine p_ofv (cc := cX6_begin) (maxL := 2) (by decide) rfl (Nat.le_of_ble_eq_true rfl) ?_
  intro p e s m below meth c hx hb hml hown hts hin hK hN A hA hP hD hS Q hret ls hl
  have hl : lv_has ls 2 [(0, .ref r0), (1, .ref ld)] := hl
  have lf22 := hts (.fieldLink RX6 22 "RiverVows$Reader" "land" "LRiverVows$Land;") (by decide +kernel)
  have inX6 : ∀ w ∈ wsX60, w ∈ pw_Reader_begin := by decide +kernel
  have lf56 := hts (.fieldLink RX6 56 "RiverVows$Reader" "fault" "I") (by decide +kernel)
  have lf18 := hts (.fieldLink RX6 18 "RiverVows$Reader" "scan" "LRiverVows$Scanner;") (by decide +kernel)
  refine lv_aload_n hx hb dX6_begin_0 rfl (lv_at hl 0 rfl) ?_
  refine lv_aload_n hx hb dX6_begin_1 rfl (lv_at hl 1 rfl) ?_
  refine va_put (ci := 5) (v := .ref ld) (ty := (.object "RiverVows$Land")) (C := RX6) (T := TX6) (N := 11) hx hb hts inX6 tyX6 tyX6_ok nmX6 hown hK hP hD hS 0 rfl rfl 5 (by decide) lf22 (fun _ h9 => h9) rfl (by decide +kernel) rfl rfl (Nat.le_of_ble_eq_true rfl) dX6_begin_2 (fun H locs hP hD hS => ?_)
  have hP : va_P D vwCl [(r0, .inr (5, [.ref r1, .ref r2, .int x2, .int x3, .ref h0, .ref ld, xf, x7, x8, x9, .int x10])), (h0, .inr (7, [.ref k0, .ref k1, .ref k2, .ref k3, .int w5, .int w6, .int 0, .int w7, .int w8, .int w9, .long w10, .null])), (k1, .inl (k 1, 1001, .inl f1)), (k2, .inl (k 1, 1001, .inl f2)), (k3, .inl (k 2, 1001, .inr (.inl f3)))] H := hP
  have hD : va_D A [(r0, .inr (5, [.ref r1, .ref r2, .int x2, .int x3, .ref h0, .ref ld, xf, x7, x8, x9, .int x10])), (h0, .inr (7, [.ref k0, .ref k1, .ref k2, .ref k3, .int w5, .int w6, .int 0, .int w7, .int w8, .int w9, .long w10, .null])), (k1, .inl (k 1, 1001, .inl f1)), (k2, .inl (k 1, 1001, .inl f2)), (k3, .inl (k 2, 1001, .inr (.inl f3)))] := hD
  refine lv_aload_n hx hb dX6_begin_5 rfl (lv_at hl 0 rfl) ?_
  refine lv_iconst (v := 0) hx hb dX6_begin_6 (by decide) ?_
  refine va_put (ci := 5) (v := .int 0) (ty := .int) (C := RX6) (T := TX6) (N := 11) hx hb hts inX6 tyX6 tyX6_ok nmX6 hown hK hP hD hS 0 rfl rfl 10 (by decide) lf56 (fun _ h9 => h9) rfl (by decide +kernel) rfl rfl (Nat.le_of_ble_eq_true rfl) dX6_begin_7 (fun H locs hP hD hS => ?_)
  have hP : va_P D vwCl [(r0, .inr (5, [.ref r1, .ref r2, .int x2, .int x3, .ref h0, .ref ld, xf, x7, x8, x9, .int 0])), (h0, .inr (7, [.ref k0, .ref k1, .ref k2, .ref k3, .int w5, .int w6, .int 0, .int w7, .int w8, .int w9, .long w10, .null])), (k1, .inl (k 1, 1001, .inl f1)), (k2, .inl (k 1, 1001, .inl f2)), (k3, .inl (k 2, 1001, .inr (.inl f3)))] H := hP
  have hD : va_D A [(r0, .inr (5, [.ref r1, .ref r2, .int x2, .int x3, .ref h0, .ref ld, xf, x7, x8, x9, .int 0])), (h0, .inr (7, [.ref k0, .ref k1, .ref k2, .ref k3, .int w5, .int w6, .int 0, .int w7, .int w8, .int w9, .long w10, .null])), (k1, .inl (k 1, 1001, .inl f1)), (k2, .inl (k 1, 1001, .inl f2)), (k3, .inl (k 2, 1001, .inr (.inl f3)))] := hD
  refine lv_aload_n hx hb dX6_begin_10 rfl (lv_at hl 0 rfl) ?_
  refine va_get (ci := 5) (v := .ref h0) (C := RX6) (T := TX6) (N := 11) hx hb hts inX6 hown hK hP 0 rfl rfl 4 (by decide) lf18 (fun _ h9 => h9) rfl dX6_begin_11 ?_
  refine p_jv (wr := [(r0, .inr (5, [.ref r1, .ref r2, .int x2, .int x3, .ref h0, .ref ld, xf, x7, x8, x9, .int 0]))]) (va_runV (As := []) (rest := []) ⟨hx, hb, hml, hown, hts⟩ (c_Scanner_begin l D k _ h0 k0 k1 k2 k3 w5 w6 w7 w8 w9 w10 f1 f2 f3) (cwV 0 hts pg_Reader_begin_0 rfl rfl rfl (by decide +kernel) ⟨Nat.le_of_ble_eq_true rfl, Nat.le_of_ble_eq_true rfl⟩) (pV hK hN hP hD [1, 2, 3, 4] rfl (by decide) rfl 1 rfl rfl) rfl rfl hl.1 rfl (lv_room (Nat.le_of_ble_eq_true rfl)) dX6_begin_14 ⟨by decide, by decide⟩) hP hD hS hA [1, 2, 3, 4] [0] rfl rfl (by decide) (by decide) (fun ux1 H locs wx2 hP hD hS => ?_)
  obtain ⟨st_x4, ky_x5, b1_x6, b2_x7, b3_x8⟩ := ux1
  have hP : va_P D vwCl [(r0, .inr (5, [.ref r1, .ref r2, .int x2, .int x3, .ref h0, .ref ld, xf, x7, x8, x9, .int 0])), (h0, .inr (7, [.ref k0, .ref k1, .ref k2, .ref k3, .int 1, .int 0, .int 0, .int 0, .int st_x4, .int 0, .long ky_x5, .null])), (k1, .inl (k 1, 1001, .inl b1_x6)), (k2, .inl (k 1, 1001, .inl b2_x7)), (k3, .inl (k 2, 1001, .inr (.inl b3_x8)))] H := hP
  have hD : va_D A [(r0, .inr (5, [.ref r1, .ref r2, .int x2, .int x3, .ref h0, .ref ld, xf, x7, x8, x9, .int 0])), (h0, .inr (7, [.ref k0, .ref k1, .ref k2, .ref k3, .int 1, .int 0, .int 0, .int 0, .int st_x4, .int 0, .long ky_x5, .null])), (k1, .inl (k 1, 1001, .inl b1_x6)), (k2, .inl (k 1, 1001, .inl b2_x7)), (k3, .inl (k 2, 1001, .inr (.inl b3_x8)))] := hD
  exact hret _ _ _ _ _ _ (st_x4, ky_x5, b1_x6, b2_x7, b3_x8) (by decide) (by decide) dX6_begin_17 trivial (hP.sub [0, 1, 2, 3, 4] rfl) (hD.sub [0, 1, 2, 3, 4] (by decide) rfl) hS
def pw_Reader_goesOn : List Cond := .code yX6_goesOn cX6_goesOn 1 (some .boolean) :: ([.fieldLink RX6 56 "RiverVows$Reader" "fault" "I", .fieldLink RX6 18 "RiverVows$Reader" "scan" "LRiverVows$Scanner;", .fieldLink RX6 78 "RiverVows$Scanner" "kind" "I"] ++ wsX60 ++ wsX80)
set_option maxHeartbeats 4000000 in
set_option maxRecDepth 100000 in
theorem c_Reader_goesOn (l : Launch) (D : va_G) (k : Nat → ClassId) (sz : Nat) (r0 : Nat) (r1 : Nat) (r2 : Nat) (h0 : Nat) (k0 : Nat) (k1 : Nat) (k2 : Nat) (k3 : Nat) (x2 : Int32) (x3 : Int32) (xl : Value) (xf : Value) (x7 : Value) (x8 : Value) (x9 : Value) (st : Int32) (ky : Int64)  : pMi l yX6_goesOn pw_Reader_goesOn ({ frames := 0, cells := 0, slots := 0, locals := 0 }) D k [.ref r0] [(r0, .inr (5, [.ref r1, .ref r2, .int x2, .int x3, .ref h0, xl, xf, x7, x8, x9, .int 0])), (h0, .inr (7, [.ref k0, .ref k1, .ref k2, .ref k3, .int 1, .int 0, .int 0, .int 0, .int st, .int 0, .long ky, .null]))] sz (S := Unit) (fun r u => r = 0) (fun u => [(r0, .inr (5, [.ref r1, .ref r2, .int x2, .int x3, .ref h0, xl, xf, x7, x8, x9, .int 0])), (h0, .inr (7, [.ref k0, .ref k1, .ref k2, .ref k3, .int 1, .int 0, .int 0, .int 0, .int st, .int 0, .long ky, .null]))]) 0 0 := by
  refine p_ofi (cc := cX6_goesOn) (maxL := 1) (rt := .boolean) (by decide) rfl (Nat.le_of_ble_eq_true rfl) ?_
  intro p e s m below meth c hx hb hml hown hts hK hN A hA hP hD hS Q hret ls hl
  have hl : lv_has ls 1 [(0, .ref r0)] := hl
  have lf56 := hts (.fieldLink RX6 56 "RiverVows$Reader" "fault" "I") (by decide +kernel)
  have inX6 : ∀ w ∈ wsX60, w ∈ pw_Reader_goesOn := by decide +kernel
  have lf18 := hts (.fieldLink RX6 18 "RiverVows$Reader" "scan" "LRiverVows$Scanner;") (by decide +kernel)
  have lf78 := hts (.fieldLink RX6 78 "RiverVows$Scanner" "kind" "I") (by decide +kernel)
  have inX8 : ∀ w ∈ wsX80, w ∈ pw_Reader_goesOn := by decide +kernel
  refine lv_aload_n hx hb dX6_goesOn_0 rfl (lv_at hl 0 rfl) ?_
  refine va_get (ci := 5) (v := .int 0) (C := RX6) (T := TX6) (N := 11) hx hb hts inX6 hown hK hP 0 rfl rfl 10 (by decide) lf56 (fun _ h9 => h9) rfl dX6_goesOn_1 ?_
  refine lv_if_ne (tgt := 21) hx hb dX6_goesOn_4 (by decide) (fun h9 => absurd (by decide) h9) (fun cx1 => ?_)
  refine lv_aload_n hx hb dX6_goesOn_7 rfl (lv_at hl 0 rfl) ?_
  refine va_get (ci := 5) (v := .ref h0) (C := RX6) (T := TX6) (N := 11) hx hb hts inX6 hown hK hP 0 rfl rfl 4 (by decide) lf18 (fun _ h9 => h9) rfl dX6_goesOn_8 ?_
  refine va_get (ci := 7) (v := .int 0) (C := RX8) (T := TX8) (N := 12) hx hb hts inX8 hown hK hP 1 rfl rfl 7 (by decide) lf78 (fun _ h9 => h9) rfl dX6_goesOn_11 ?_
  refine lv_if_eq (tgt := 21) hx hb dX6_goesOn_14 (by decide) (fun cx2 => ?_) (fun h9 => absurd (by decide) h9)
  refine lv_iconst (v := 0) hx hb dX6_goesOn_21 (by decide) ?_
  exact hret _ _ _ _ _ _ 0 () (by decide) (by decide) dX6_goesOn_22 rfl rfl (hP.sub [0, 1] rfl) (hD.sub [0, 1] (by decide) rfl) hS
def pw_Reader_readLand : List Cond := .code yX6_readLand cX6_readLand 3 (some .int) :: ([.code yX6_begin cX6_begin 2 none, .fieldLink RX6 22 "RiverVows$Reader" "land" "LRiverVows$Land;", .fieldLink RX6 56 "RiverVows$Reader" "fault" "I", .fieldLink RX6 18 "RiverVows$Reader" "scan" "LRiverVows$Scanner;", .code yX8_begin cX8_begin 3 none, .fieldLink RX8 30 "RiverVows$Scanner" "tokens" "I", .fieldLink RX8 26 "RiverVows$Scanner" "length" "I", .code yX8_keep cX8_keep 5 none, .fieldLink RX8 15 "RiverVows$Scanner" "kinds" "[I", .fieldLink RX8 19 "RiverVows$Scanner" "starts" "[I", .fieldLink RX8 22 "RiverVows$Scanner" "keys" "[J", .methodLink RX8 37 yX8_keep, .instanceMethod yX8_keep, .selects RX8 yX8_keep yX8_keep, .initialized RX8, .fieldLink RX8 41 "RiverVows$Scanner" "next" "I", .code yX8_advance cX8_advance 2 none, .fieldLink RX8 47 "RiverVows$Scanner" "kind" "I", .fieldLink RX8 50 "RiverVows$Scanner" "start" "I", .fieldLink RX8 53 "RiverVows$Scanner" "key" "J", .fieldLink RX8 57 "RiverVows$Scanner" "letters" "I", .fieldLink RX8 60 "RiverVows$Scanner" "word" "LRiverVows$Word;", .methodLink RX8 44 yX8_advance, .instanceMethod yX8_advance, .selects RX8 yX8_advance yX8_advance, .methodLink RX6 74 yX8_begin, .instanceMethod yX8_begin, .selects RX8 yX8_begin yX8_begin, .methodLink RX6 35 yX6_begin, .instanceMethod yX6_begin, .selects RX6 yX6_begin yX6_begin, .initialized RX6, .code yX3_clear cX3_clear 1 none, .fieldLink RX3 45 "RiverVows$Land" "rivers" "I", .fieldLink RX3 49 "RiverVows$Land" "ranges" "I", .fieldLink RX3 52 "RiverVows$Land" "kin" "I", .fieldLink RX3 55 "RiverVows$Land" "chance" "I", .fieldLink RX3 58 "RiverVows$Land" "more" "I", .fieldLink RX3 27 "RiverVows$Land" "dowry" "LRiverVows$Formula;", .code yX2_clear cX2_clear 1 none, .fieldLink RX2 18 "RiverVows$Formula" "length" "I", .methodLink RX3 61 yX2_clear, .instanceMethod yX2_clear, .selects RX2 yX2_clear yX2_clear, .initialized RX2, .code yX2_add cX2_add 2 none, .fieldLink RX2 9 "RiverVows$Formula" "steps" "[I", .methodLink RX3 41 yX2_add, .instanceMethod yX2_add, .selects RX2 yX2_add yX2_add, .fieldLink RX3 31 "RiverVows$Land" "silt" "LRiverVows$Formula;", .methodLink RX6 39 yX3_clear, .instanceMethod yX3_clear, .selects RX3 yX3_clear yX3_clear, .initialized RX3, .fieldLink RX6 42 "RiverVows$Reader" "onceTold" "I", .code yX6_goesOn cX6_goesOn 1 (some .boolean), .fieldLink RX6 78 "RiverVows$Scanner" "kind" "I", .methodLink RX6 46 yX6_goesOn, .instanceMethod yX6_goesOn, .selects RX6 yX6_goesOn yX6_goesOn, .code yX3_settle cX3_settle 3 none, .code yX3_sumUp cX3_sumUp 8 none, .fieldLink RX3 37 "RiverVows$Land" "sums" "[I", .methodLink RX3 72 yX3_sumUp, .instanceMethod yX3_sumUp, .selects RX3 yX3_sumUp yX3_sumUp, .code yX3_compareSeasons cX3_compareSeasons 5 none, .methodLink RX3 94 Lib.Math.min.name, .static Lib.Math.min.name, .initialized "java/lang/Math", .code Lib.Math.min.name Lib.Math.min.code 2 (some .int), .methodLink RX3 99 Lib.Math.max.name, .static Lib.Math.max.name, .code Lib.Math.max.name Lib.Math.max.code 2 (some .int), .methodLink RX3 75 yX3_compareSeasons, .instanceMethod yX3_compareSeasons, .selects RX3 yX3_compareSeasons yX3_compareSeasons, .methodLink RX6 59 yX3_settle, .instanceMethod yX3_settle, .selects RX3 yX3_settle yX3_settle] ++ wsX60 ++ wsX80 ++ wsX30 ++ wsX20)
set_option maxRecDepth 20000 in
theorem pg_Reader_readLand_0 : GoodIn pw_Reader_readLand (wsV RX6 35 RX6 yX6_begin pw_Reader_begin) := goodIn_sub (by decide +kernel) (by decide +kernel)
set_option maxRecDepth 20000 in
theorem pg_Reader_readLand_1 : GoodIn pw_Reader_readLand (wsV RX6 39 RX3 yX3_clear pw_Land_clear) := goodIn_sub (by decide +kernel) (by decide +kernel)
set_option maxRecDepth 20000 in
theorem pg_Reader_readLand_2 : GoodIn pw_Reader_readLand (wsV RX6 46 RX6 yX6_goesOn pw_Reader_goesOn) := goodIn_sub (by decide +kernel) (by decide +kernel)
set_option maxRecDepth 20000 in
theorem pg_Reader_readLand_3 : GoodIn pw_Reader_readLand (wsV RX6 59 RX3 yX3_settle pw_Land_settle) := goodIn_sub (by decide +kernel) (by decide +kernel)
set_option maxHeartbeats 4000000 in
set_option maxRecDepth 100000 in
theorem c_Reader_readLand (l : Launch) (D : va_G) (k : Nat → ClassId) (sz : Nat) (r0 : Nat) (r1 : Nat) (r2 : Nat) (h0 : Nat) (k0 : Nat) (k1 : Nat) (k2 : Nat) (k3 : Nat) (ld : Nat) (x2 : Int32) (x3 : Int32) (xl : Value) (xf : Value) (x7 : Value) (x8 : Value) (x9 : Value) (x10 : Int32) (w5 : Int32) (w6 : Int32) (w7 : Int32) (w8 : Int32) (w9 : Int32) (w10 : Int64) (f1 : Nat → Int32) (f2 : Nat → Int32) (f3 : Nat → Int64) (l0 : Nat) (l1 : Nat) (l2 : Nat) (l3 : Nat) (l4 : Nat) (l5 : Nat) (l6 : Nat) (s1 : Nat) (s2 : Nat) (t1 : Value) (t2 : Value) (e1 : Nat → Int32) (e2 : Nat → Int32) (e3 : Nat → Int32)  : pMi l yX6_readLand pw_Reader_readLand ({ frames := 3, cells := 0, slots := 0, locals := 76 }) D k [.ref r0, .ref ld] [(r0, .inr (5, [.ref r1, .ref r2, .int x2, .int x3, .ref h0, xl, xf, x7, x8, x9, .int x10])), (h0, .inr (7, [.ref k0, .ref k1, .ref k2, .ref k3, .int w5, .int w6, .int 0, .int w7, .int w8, .int w9, .long w10, .null])), (k1, .inl (k 1, 1001, .inl f1)), (k2, .inl (k 1, 1001, .inl f2)), (k3, .inl (k 2, 1001, .inr (.inl f3))), (ld, .inr (2, [.ref l0, .ref l1, .ref l2, .ref l3, .ref l4, .ref l5, .ref l6, .int 0, .int 0, .int 0, .int 0, .int 0])), (l3, .inr (1, [.ref s1, t1, .int 1])), (s1, .inl (k 1, 1000, .inl e1)), (l4, .inr (1, [.ref s2, t2, .int 1])), (s2, .inl (k 1, 1000, .inl e2)), (l6, .inl (k 1, 640, .inl e3))] sz (S := Int32 × Int64 × (Nat → Int32) × (Nat → Int32) × (Nat → Int64)) (fun r u => r = 0) (fun u => [(r0, .inr (5, [.ref r1, .ref r2, .int x2, .int x3, .ref h0, .ref ld, xf, x7, .int 0, x9, .int 0])), (h0, .inr (7, [.ref k0, .ref k1, .ref k2, .ref k3, .int 1, .int 0, .int 0, .int 0, .int u.1, .int 0, .long u.2.1, .null])), (k1, .inl (k 1, 1001, .inl u.2.2.1)), (k2, .inl (k 1, 1001, .inl u.2.2.2.1)), (k3, .inl (k 2, 1001, .inr (.inl u.2.2.2.2)))]) 0 0 := by
  refine p_ofi (cc := cX6_readLand) (maxL := 3) (rt := .int) (by decide) rfl (Nat.le_of_ble_eq_true rfl) ?_
  intro p e s m below meth c hx hb hml hown hts hK hN A hA hP hD hS Q hret ls hl
  have hl : lv_has ls 3 [(0, .ref r0), (1, .ref ld)] := hl
  have lf42 := hts (.fieldLink RX6 42 "RiverVows$Reader" "onceTold" "I") (by decide +kernel)
  have inX6 : ∀ w ∈ wsX60, w ∈ pw_Reader_readLand := by decide +kernel
  have lf56 := hts (.fieldLink RX6 56 "RiverVows$Reader" "fault" "I") (by decide +kernel)
  refine lv_aload_n hx hb dX6_readLand_0 rfl (lv_at hl 0 rfl) ?_
  refine lv_aload_n hx hb dX6_readLand_1 rfl (lv_at hl 1 rfl) ?_
  refine p_jv (wr := [(ld, .inr (2, [.ref l0, .ref l1, .ref l2, .ref l3, .ref l4, .ref l5, .ref l6, .int 0, .int 0, .int 0, .int 0, .int 0])), (l3, .inr (1, [.ref s1, t1, .int 1])), (s1, .inl (k 1, 1000, .inl e1)), (l4, .inr (1, [.ref s2, t2, .int 1])), (s2, .inl (k 1, 1000, .inl e2)), (l6, .inl (k 1, 640, .inl e3))]) (va_runV (As := [.ref ld]) (rest := []) ⟨hx, hb, hml, hown, hts⟩ (c_Reader_begin l D k _ r0 r1 r2 h0 k0 k1 k2 k3 ld x2 x3 xl xf x7 x8 x9 x10 w5 w6 w7 w8 w9 w10 f1 f2 f3) (cwV 1 hts pg_Reader_readLand_0 rfl rfl rfl (by decide +kernel) ⟨Nat.le_of_ble_eq_true rfl, Nat.le_of_ble_eq_true rfl⟩) (pV hK hN hP hD [0, 1, 2, 3, 4] rfl (by decide) rfl 0 rfl rfl) rfl rfl hl.1 rfl (lv_room (Nat.le_of_ble_eq_true rfl)) dX6_readLand_2 ⟨by decide, by decide⟩) hP hD hS hA [0, 1, 2, 3, 4] [5, 6, 7, 8, 9, 10] rfl rfl (by decide) (by decide) (fun ux1 H locs wx2 hP hD hS => ?_)
  obtain ⟨st_x4, ky_x5, b1_x6, b2_x7, b3_x8⟩ := ux1
  have hP : va_P D vwCl [(ld, .inr (2, [.ref l0, .ref l1, .ref l2, .ref l3, .ref l4, .ref l5, .ref l6, .int 0, .int 0, .int 0, .int 0, .int 0])), (l3, .inr (1, [.ref s1, t1, .int 1])), (s1, .inl (k 1, 1000, .inl e1)), (l4, .inr (1, [.ref s2, t2, .int 1])), (s2, .inl (k 1, 1000, .inl e2)), (l6, .inl (k 1, 640, .inl e3)), (r0, .inr (5, [.ref r1, .ref r2, .int x2, .int x3, .ref h0, .ref ld, xf, x7, x8, x9, .int 0])), (h0, .inr (7, [.ref k0, .ref k1, .ref k2, .ref k3, .int 1, .int 0, .int 0, .int 0, .int st_x4, .int 0, .long ky_x5, .null])), (k1, .inl (k 1, 1001, .inl b1_x6)), (k2, .inl (k 1, 1001, .inl b2_x7)), (k3, .inl (k 2, 1001, .inr (.inl b3_x8)))] H := hP
  have hD : va_D A [(ld, .inr (2, [.ref l0, .ref l1, .ref l2, .ref l3, .ref l4, .ref l5, .ref l6, .int 0, .int 0, .int 0, .int 0, .int 0])), (l3, .inr (1, [.ref s1, t1, .int 1])), (s1, .inl (k 1, 1000, .inl e1)), (l4, .inr (1, [.ref s2, t2, .int 1])), (s2, .inl (k 1, 1000, .inl e2)), (l6, .inl (k 1, 640, .inl e3)), (r0, .inr (5, [.ref r1, .ref r2, .int x2, .int x3, .ref h0, .ref ld, xf, x7, x8, x9, .int 0])), (h0, .inr (7, [.ref k0, .ref k1, .ref k2, .ref k3, .int 1, .int 0, .int 0, .int 0, .int st_x4, .int 0, .long ky_x5, .null])), (k1, .inl (k 1, 1001, .inl b1_x6)), (k2, .inl (k 1, 1001, .inl b2_x7)), (k3, .inl (k 2, 1001, .inr (.inl b3_x8)))] := hD
  refine lv_aload_n hx hb dX6_readLand_5 rfl (lv_at hl 1 rfl) ?_
  refine p_jv (wr := [(l6, .inl (k 1, 640, .inl e3)), (r0, .inr (5, [.ref r1, .ref r2, .int x2, .int x3, .ref h0, .ref ld, xf, x7, x8, x9, .int 0])), (h0, .inr (7, [.ref k0, .ref k1, .ref k2, .ref k3, .int 1, .int 0, .int 0, .int 0, .int st_x4, .int 0, .long ky_x5, .null])), (k1, .inl (k 1, 1001, .inl b1_x6)), (k2, .inl (k 1, 1001, .inl b2_x7)), (k3, .inl (k 2, 1001, .inr (.inl b3_x8)))]) (va_runV (As := []) (rest := []) ⟨hx, hb, hml, hown, hts⟩ (c_Land_clear l D k _ ld l0 l1 l2 l3 l4 l5 l6 s1 s2 t1 t2 e1 e2) (cwV 0 hts pg_Reader_readLand_1 rfl rfl rfl (by decide +kernel) ⟨Nat.le_of_ble_eq_true rfl, Nat.le_of_ble_eq_true rfl⟩) (pV hK hN hP hD [0, 1, 2, 3, 4] rfl (by decide) rfl 0 rfl rfl) rfl rfl hl.1 rfl (lv_room (Nat.le_of_ble_eq_true rfl)) dX6_readLand_6 ⟨by decide, by decide⟩) hP hD hS hA [0, 1, 2, 3, 4] [5, 6, 7, 8, 9, 10] rfl rfl (by decide) (by decide) (fun ux9 H locs wx10 hP hD hS => ?_)
  obtain ⟨g1_x12, g2_x13⟩ := ux9
  have hP : va_P D vwCl [(l6, .inl (k 1, 640, .inl e3)), (r0, .inr (5, [.ref r1, .ref r2, .int x2, .int x3, .ref h0, .ref ld, xf, x7, x8, x9, .int 0])), (h0, .inr (7, [.ref k0, .ref k1, .ref k2, .ref k3, .int 1, .int 0, .int 0, .int 0, .int st_x4, .int 0, .long ky_x5, .null])), (k1, .inl (k 1, 1001, .inl b1_x6)), (k2, .inl (k 1, 1001, .inl b2_x7)), (k3, .inl (k 2, 1001, .inr (.inl b3_x8))), (ld, .inr (2, [.ref l0, .ref l1, .ref l2, .ref l3, .ref l4, .ref l5, .ref l6, .int 0, .int 0, .int 0, .int 0, .int 0])), (l3, .inr (1, [.ref s1, t1, .int 1])), (s1, .inl (k 1, 1000, .inl g1_x12)), (l4, .inr (1, [.ref s2, t2, .int 1])), (s2, .inl (k 1, 1000, .inl g2_x13))] H := hP
  have hD : va_D A [(l6, .inl (k 1, 640, .inl e3)), (r0, .inr (5, [.ref r1, .ref r2, .int x2, .int x3, .ref h0, .ref ld, xf, x7, x8, x9, .int 0])), (h0, .inr (7, [.ref k0, .ref k1, .ref k2, .ref k3, .int 1, .int 0, .int 0, .int 0, .int st_x4, .int 0, .long ky_x5, .null])), (k1, .inl (k 1, 1001, .inl b1_x6)), (k2, .inl (k 1, 1001, .inl b2_x7)), (k3, .inl (k 2, 1001, .inr (.inl b3_x8))), (ld, .inr (2, [.ref l0, .ref l1, .ref l2, .ref l3, .ref l4, .ref l5, .ref l6, .int 0, .int 0, .int 0, .int 0, .int 0])), (l3, .inr (1, [.ref s1, t1, .int 1])), (s1, .inl (k 1, 1000, .inl g1_x12)), (l4, .inr (1, [.ref s2, t2, .int 1])), (s2, .inl (k 1, 1000, .inl g2_x13))] := hD
  refine lv_aload_n hx hb dX6_readLand_9 rfl (lv_at hl 0 rfl) ?_
  refine lv_iconst (v := 0) hx hb dX6_readLand_10 (by decide) ?_
  refine va_put (ci := 5) (v := .int 0) (ty := .int) (C := RX6) (T := TX6) (N := 11) hx hb hts inX6 tyX6 tyX6_ok nmX6 hown hK hP hD hS 1 rfl rfl 8 (by decide) lf42 (fun _ h9 => h9) rfl (by decide +kernel) rfl rfl (Nat.le_of_ble_eq_true rfl) dX6_readLand_11 (fun H locs hP hD hS => ?_)
  have hP : va_P D vwCl [(l6, .inl (k 1, 640, .inl e3)), (r0, .inr (5, [.ref r1, .ref r2, .int x2, .int x3, .ref h0, .ref ld, xf, x7, .int 0, x9, .int 0])), (h0, .inr (7, [.ref k0, .ref k1, .ref k2, .ref k3, .int 1, .int 0, .int 0, .int 0, .int st_x4, .int 0, .long ky_x5, .null])), (k1, .inl (k 1, 1001, .inl b1_x6)), (k2, .inl (k 1, 1001, .inl b2_x7)), (k3, .inl (k 2, 1001, .inr (.inl b3_x8))), (ld, .inr (2, [.ref l0, .ref l1, .ref l2, .ref l3, .ref l4, .ref l5, .ref l6, .int 0, .int 0, .int 0, .int 0, .int 0])), (l3, .inr (1, [.ref s1, t1, .int 1])), (s1, .inl (k 1, 1000, .inl g1_x12)), (l4, .inr (1, [.ref s2, t2, .int 1])), (s2, .inl (k 1, 1000, .inl g2_x13))] H := hP
  have hD : va_D A [(l6, .inl (k 1, 640, .inl e3)), (r0, .inr (5, [.ref r1, .ref r2, .int x2, .int x3, .ref h0, .ref ld, xf, x7, .int 0, x9, .int 0])), (h0, .inr (7, [.ref k0, .ref k1, .ref k2, .ref k3, .int 1, .int 0, .int 0, .int 0, .int st_x4, .int 0, .long ky_x5, .null])), (k1, .inl (k 1, 1001, .inl b1_x6)), (k2, .inl (k 1, 1001, .inl b2_x7)), (k3, .inl (k 2, 1001, .inr (.inl b3_x8))), (ld, .inr (2, [.ref l0, .ref l1, .ref l2, .ref l3, .ref l4, .ref l5, .ref l6, .int 0, .int 0, .int 0, .int 0, .int 0])), (l3, .inr (1, [.ref s1, t1, .int 1])), (s1, .inl (k 1, 1000, .inl g1_x12)), (l4, .inr (1, [.ref s2, t2, .int 1])), (s2, .inl (k 1, 1000, .inl g2_x13))] := hD
  refine lv_iconst (v := 0) hx hb dX6_readLand_14 (by decide) ?_
  refine lv_istore_n (lv' := [(2, .int 0), (0, .ref r0), (1, .ref ld)]) hx hb dX6_readLand_15 rfl hl (by decide) rfl (fun ls hl => ?_)
  refine lv_iload_n hx hb dX6_readLand_16 rfl (lv_at hl 0 rfl) ?_
  refine lv_sipush (v := 1000) hx hb dX6_readLand_17 (by decide) ?_
  refine lv_icmp_gt (tgt := 48) hx hb dX6_readLand_20 (by decide) (fun h9 => absurd h9 (by decide)) (fun cx14 => ?_)
  refine lv_aload_n hx hb dX6_readLand_23 rfl (lv_at hl 1 rfl) ?_
  refine p_ji (wr := [(l6, .inl (k 1, 640, .inl e3)), (k1, .inl (k 1, 1001, .inl b1_x6)), (k2, .inl (k 1, 1001, .inl b2_x7)), (k3, .inl (k 2, 1001, .inr (.inl b3_x8))), (ld, .inr (2, [.ref l0, .ref l1, .ref l2, .ref l3, .ref l4, .ref l5, .ref l6, .int 0, .int 0, .int 0, .int 0, .int 0])), (l3, .inr (1, [.ref s1, t1, .int 1])), (s1, .inl (k 1, 1000, .inl g1_x12)), (l4, .inr (1, [.ref s2, t2, .int 1])), (s2, .inl (k 1, 1000, .inl g2_x13))]) (va_runV (As := []) (rest := []) ⟨hx, hb, hml, hown, hts⟩ (c_Reader_goesOn l D k _ r0 r1 r2 h0 k0 k1 k2 k3 x2 x3 (.ref ld) xf x7 (.int 0) x9 st_x4 ky_x5) (cwV 0 hts pg_Reader_readLand_2 rfl rfl rfl (by decide +kernel) ⟨Nat.le_of_ble_eq_true rfl, Nat.le_of_ble_eq_true rfl⟩) (pV hK hN hP hD [1, 2] rfl (by decide) rfl 1 rfl rfl) rfl rfl hl.1 rfl (lv_room (Nat.le_of_ble_eq_true rfl)) dX6_readLand_24 ⟨by decide, by decide⟩) hP hD hS hA [1, 2] [0, 3, 4, 5, 6, 7, 8, 9, 10] rfl rfl (by decide) (by decide) (fun rx17 ux15 H locs wx16 hP hD hS => ?_)
  have hx18 : rx17 = 0 := wx16
  subst hx18
  have hP : va_P D vwCl [(l6, .inl (k 1, 640, .inl e3)), (k1, .inl (k 1, 1001, .inl b1_x6)), (k2, .inl (k 1, 1001, .inl b2_x7)), (k3, .inl (k 2, 1001, .inr (.inl b3_x8))), (ld, .inr (2, [.ref l0, .ref l1, .ref l2, .ref l3, .ref l4, .ref l5, .ref l6, .int 0, .int 0, .int 0, .int 0, .int 0])), (l3, .inr (1, [.ref s1, t1, .int 1])), (s1, .inl (k 1, 1000, .inl g1_x12)), (l4, .inr (1, [.ref s2, t2, .int 1])), (s2, .inl (k 1, 1000, .inl g2_x13)), (r0, .inr (5, [.ref r1, .ref r2, .int x2, .int x3, .ref h0, .ref ld, xf, x7, .int 0, x9, .int 0])), (h0, .inr (7, [.ref k0, .ref k1, .ref k2, .ref k3, .int 1, .int 0, .int 0, .int 0, .int st_x4, .int 0, .long ky_x5, .null]))] H := hP
  have hD : va_D A [(l6, .inl (k 1, 640, .inl e3)), (k1, .inl (k 1, 1001, .inl b1_x6)), (k2, .inl (k 1, 1001, .inl b2_x7)), (k3, .inl (k 2, 1001, .inr (.inl b3_x8))), (ld, .inr (2, [.ref l0, .ref l1, .ref l2, .ref l3, .ref l4, .ref l5, .ref l6, .int 0, .int 0, .int 0, .int 0, .int 0])), (l3, .inr (1, [.ref s1, t1, .int 1])), (s1, .inl (k 1, 1000, .inl g1_x12)), (l4, .inr (1, [.ref s2, t2, .int 1])), (s2, .inl (k 1, 1000, .inl g2_x13)), (r0, .inr (5, [.ref r1, .ref r2, .int x2, .int x3, .ref h0, .ref ld, xf, x7, .int 0, x9, .int 0])), (h0, .inr (7, [.ref k0, .ref k1, .ref k2, .ref k3, .int 1, .int 0, .int 0, .int 0, .int st_x4, .int 0, .long ky_x5, .null]))] := hD
  refine lv_if_eq (tgt := 48) hx hb dX6_readLand_27 (by decide) (fun cx19 => ?_) (fun h9 => absurd (by decide) h9)
  refine lv_aload_n hx hb dX6_readLand_48 rfl (lv_at hl 1 rfl) ?_
  refine va_get (ci := 5) (v := .int 0) (C := RX6) (T := TX6) (N := 11) hx hb hts inX6 hown hK hP 9 rfl rfl 10 (by decide) lf56 (fun _ h9 => h9) rfl dX6_readLand_49 ?_
  refine lv_if_ne (tgt := 59) hx hb dX6_readLand_52 (by decide) (fun h9 => absurd (by decide) h9) (fun cx20 => ?_)
  refine lv_aload_n hx hb dX6_readLand_55 rfl (lv_at hl 2 rfl) ?_
  refine p_jv (wr := [(k1, .inl (k 1, 1001, .inl b1_x6)), (k2, .inl (k 1, 1001, .inl b2_x7)), (k3, .inl (k 2, 1001, .inr (.inl b3_x8))), (l3, .inr (1, [.ref s1, t1, .int 1])), (s1, .inl (k 1, 1000, .inl g1_x12)), (l4, .inr (1, [.ref s2, t2, .int 1])), (s2, .inl (k 1, 1000, .inl g2_x13)), (r0, .inr (5, [.ref r1, .ref r2, .int x2, .int x3, .ref h0, .ref ld, xf, x7, .int 0, x9, .int 0])), (h0, .inr (7, [.ref k0, .ref k1, .ref k2, .ref k3, .int 1, .int 0, .int 0, .int 0, .int st_x4, .int 0, .long ky_x5, .null]))]) (va_runV (As := []) (rest := []) ⟨hx, hb, hml, hown, hts⟩ (c_Land_settle l D k _ ld l0 l1 l2 l3 l4 l5 l6 e3) (cwV 0 hts pg_Reader_readLand_3 rfl rfl rfl (by decide +kernel) ⟨Nat.le_of_ble_eq_true rfl, Nat.le_of_ble_eq_true rfl⟩) (pV hK hN hP hD [4, 0] rfl (by decide) rfl 4 rfl rfl) rfl rfl hl.1 rfl (lv_room (Nat.le_of_ble_eq_true rfl)) dX6_readLand_56 ⟨by decide, by decide⟩) hP hD hS hA [4, 0] [1, 2, 3, 5, 6, 7, 8, 9, 10] rfl rfl (by decide) (by decide) (fun ux21 H locs wx22 hP hD hS => ?_)
  obtain ⟨g_x24, rfl⟩ : ∃ z, z = ux21 := ⟨_, rfl⟩
  have hP : va_P D vwCl [(k1, .inl (k 1, 1001, .inl b1_x6)), (k2, .inl (k 1, 1001, .inl b2_x7)), (k3, .inl (k 2, 1001, .inr (.inl b3_x8))), (l3, .inr (1, [.ref s1, t1, .int 1])), (s1, .inl (k 1, 1000, .inl g1_x12)), (l4, .inr (1, [.ref s2, t2, .int 1])), (s2, .inl (k 1, 1000, .inl g2_x13)), (r0, .inr (5, [.ref r1, .ref r2, .int x2, .int x3, .ref h0, .ref ld, xf, x7, .int 0, x9, .int 0])), (h0, .inr (7, [.ref k0, .ref k1, .ref k2, .ref k3, .int 1, .int 0, .int 0, .int 0, .int st_x4, .int 0, .long ky_x5, .null])), (ld, .inr (2, [.ref l0, .ref l1, .ref l2, .ref l3, .ref l4, .ref l5, .ref l6, .int 0, .int 0, .int 0, .int 0, .int 0])), (l6, .inl (k 1, 640, .inl g_x24))] H := hP
  have hD : va_D A [(k1, .inl (k 1, 1001, .inl b1_x6)), (k2, .inl (k 1, 1001, .inl b2_x7)), (k3, .inl (k 2, 1001, .inr (.inl b3_x8))), (l3, .inr (1, [.ref s1, t1, .int 1])), (s1, .inl (k 1, 1000, .inl g1_x12)), (l4, .inr (1, [.ref s2, t2, .int 1])), (s2, .inl (k 1, 1000, .inl g2_x13)), (r0, .inr (5, [.ref r1, .ref r2, .int x2, .int x3, .ref h0, .ref ld, xf, x7, .int 0, x9, .int 0])), (h0, .inr (7, [.ref k0, .ref k1, .ref k2, .ref k3, .int 1, .int 0, .int 0, .int 0, .int st_x4, .int 0, .long ky_x5, .null])), (ld, .inr (2, [.ref l0, .ref l1, .ref l2, .ref l3, .ref l4, .ref l5, .ref l6, .int 0, .int 0, .int 0, .int 0, .int 0])), (l6, .inl (k 1, 640, .inl g_x24))] := hD
  refine lv_aload_n hx hb dX6_readLand_59 rfl (lv_at hl 1 rfl) ?_
  refine va_get (ci := 5) (v := .int 0) (C := RX6) (T := TX6) (N := 11) hx hb hts inX6 hown hK hP 7 rfl rfl 10 (by decide) lf56 (fun _ h9 => h9) rfl dX6_readLand_60 ?_
  exact hret _ _ _ _ _ _ 0 (st_x4, ky_x5, b1_x6, b2_x7, b3_x8) (by decide) (by decide) dX6_readLand_63 rfl rfl (hP.sub [7, 8, 0, 1, 2] rfl) (hD.sub [7, 8, 0, 1, 2] (by decide) rfl) hS
def pw_Reader_readVows : List Cond := .code yX6_readVows cX6_readVows 3 (some .int) :: ([.code yX6_begin cX6_begin 2 none, .fieldLink RX6 22 "RiverVows$Reader" "land" "LRiverVows$Land;", .fieldLink RX6 56 "RiverVows$Reader" "fault" "I", .fieldLink RX6 18 "RiverVows$Reader" "scan" "LRiverVows$Scanner;", .code yX8_begin cX8_begin 3 none, .fieldLink RX8 30 "RiverVows$Scanner" "tokens" "I", .fieldLink RX8 26 "RiverVows$Scanner" "length" "I", .code yX8_keep cX8_keep 5 none, .fieldLink RX8 15 "RiverVows$Scanner" "kinds" "[I", .fieldLink RX8 19 "RiverVows$Scanner" "starts" "[I", .fieldLink RX8 22 "RiverVows$Scanner" "keys" "[J", .methodLink RX8 37 yX8_keep, .instanceMethod yX8_keep, .selects RX8 yX8_keep yX8_keep, .initialized RX8, .fieldLink RX8 41 "RiverVows$Scanner" "next" "I", .code yX8_advance cX8_advance 2 none, .fieldLink RX8 47 "RiverVows$Scanner" "kind" "I", .fieldLink RX8 50 "RiverVows$Scanner" "start" "I", .fieldLink RX8 53 "RiverVows$Scanner" "key" "J", .fieldLink RX8 57 "RiverVows$Scanner" "letters" "I", .fieldLink RX8 60 "RiverVows$Scanner" "word" "LRiverVows$Word;", .methodLink RX8 44 yX8_advance, .instanceMethod yX8_advance, .selects RX8 yX8_advance yX8_advance, .methodLink RX6 74 yX8_begin, .instanceMethod yX8_begin, .selects RX8 yX8_begin yX8_begin, .methodLink RX6 35 yX6_begin, .instanceMethod yX6_begin, .selects RX6 yX6_begin yX6_begin, .initialized RX6, .fieldLink RX6 62 "RiverVows$Reader" "lineCount" "I", .code yX6_goesOn cX6_goesOn 1 (some .boolean), .fieldLink RX6 78 "RiverVows$Scanner" "kind" "I", .methodLink RX6 46 yX6_goesOn, .instanceMethod yX6_goesOn, .selects RX6 yX6_goesOn yX6_goesOn] ++ wsX60 ++ wsX80)
set_option maxRecDepth 20000 in
theorem pg_Reader_readVows_0 : GoodIn pw_Reader_readVows (wsV RX6 35 RX6 yX6_begin pw_Reader_begin) := goodIn_sub (by decide +kernel) (by decide +kernel)
set_option maxRecDepth 20000 in
theorem pg_Reader_readVows_1 : GoodIn pw_Reader_readVows (wsV RX6 46 RX6 yX6_goesOn pw_Reader_goesOn) := goodIn_sub (by decide +kernel) (by decide +kernel)
set_option maxHeartbeats 4000000 in
set_option maxRecDepth 100000 in
theorem c_Reader_readVows (l : Launch) (D : va_G) (k : Nat → ClassId) (sz : Nat) (r0 : Nat) (r1 : Nat) (r2 : Nat) (h0 : Nat) (k0 : Nat) (k1 : Nat) (k2 : Nat) (k3 : Nat) (ld : Nat) (x2 : Int32) (x3 : Int32) (xl : Value) (xf : Value) (x7 : Value) (x8 : Value) (x9 : Value) (x10 : Int32) (w5 : Int32) (w6 : Int32) (w7 : Int32) (w8 : Int32) (w9 : Int32) (w10 : Int64) (f1 : Nat → Int32) (f2 : Nat → Int32) (f3 : Nat → Int64)  : pMi l yX6_readVows pw_Reader_readVows ({ frames := 3, cells := 0, slots := 0, locals := 67 }) D k [.ref r0, .ref ld] [(r0, .inr (5, [.ref r1, .ref r2, .int x2, .int x3, .ref h0, xl, xf, x7, x8, x9, .int x10])), (h0, .inr (7, [.ref k0, .ref k1, .ref k2, .ref k3, .int w5, .int w6, .int 0, .int w7, .int w8, .int w9, .long w10, .null])), (k1, .inl (k 1, 1001, .inl f1)), (k2, .inl (k 1, 1001, .inl f2)), (k3, .inl (k 2, 1001, .inr (.inl f3)))] sz (S := Int32 × Int64 × (Nat → Int32) × (Nat → Int32) × (Nat → Int64)) (fun r u => r = 0) (fun u => [(r0, .inr (5, [.ref r1, .ref r2, .int 0, .int x3, .ref h0, .ref ld, xf, x7, x8, x9, .int 0])), (h0, .inr (7, [.ref k0, .ref k1, .ref k2, .ref k3, .int 1, .int 0, .int 0, .int 0, .int u.1, .int 0, .long u.2.1, .null])), (k1, .inl (k 1, 1001, .inl u.2.2.1)), (k2, .inl (k 1, 1001, .inl u.2.2.2.1)), (k3, .inl (k 2, 1001, .inr (.inl u.2.2.2.2)))]) 0 0 := by
  refine p_ofi (cc := cX6_readVows) (maxL := 3) (rt := .int) (by decide) rfl (Nat.le_of_ble_eq_true rfl) ?_
  intro p e s m below meth c hx hb hml hown hts hK hN A hA hP hD hS Q hret ls hl
  have hl : lv_has ls 3 [(0, .ref r0), (1, .ref ld)] := hl
  have lf62 := hts (.fieldLink RX6 62 "RiverVows$Reader" "lineCount" "I") (by decide +kernel)
  have inX6 : ∀ w ∈ wsX60, w ∈ pw_Reader_readVows := by decide +kernel
  have lf56 := hts (.fieldLink RX6 56 "RiverVows$Reader" "fault" "I") (by decide +kernel)
  refine lv_aload_n hx hb dX6_readVows_0 rfl (lv_at hl 0 rfl) ?_
  refine lv_aload_n hx hb dX6_readVows_1 rfl (lv_at hl 1 rfl) ?_
  refine p_jv (wr := []) (va_runV (As := [.ref ld]) (rest := []) ⟨hx, hb, hml, hown, hts⟩ (c_Reader_begin l D k _ r0 r1 r2 h0 k0 k1 k2 k3 ld x2 x3 xl xf x7 x8 x9 x10 w5 w6 w7 w8 w9 w10 f1 f2 f3) (cwV 1 hts pg_Reader_readVows_0 rfl rfl rfl (by decide +kernel) ⟨Nat.le_of_ble_eq_true rfl, Nat.le_of_ble_eq_true rfl⟩) (pV hK hN hP hD [0, 1, 2, 3, 4] rfl (by decide) rfl 0 rfl rfl) rfl rfl hl.1 rfl (lv_room (Nat.le_of_ble_eq_true rfl)) dX6_readVows_2 ⟨by decide, by decide⟩) hP hD hS hA [0, 1, 2, 3, 4] [] rfl rfl (by decide) (by decide) (fun ux1 H locs wx2 hP hD hS => ?_)
  obtain ⟨st_x4, ky_x5, b1_x6, b2_x7, b3_x8⟩ := ux1
  have hP : va_P D vwCl [(r0, .inr (5, [.ref r1, .ref r2, .int x2, .int x3, .ref h0, .ref ld, xf, x7, x8, x9, .int 0])), (h0, .inr (7, [.ref k0, .ref k1, .ref k2, .ref k3, .int 1, .int 0, .int 0, .int 0, .int st_x4, .int 0, .long ky_x5, .null])), (k1, .inl (k 1, 1001, .inl b1_x6)), (k2, .inl (k 1, 1001, .inl b2_x7)), (k3, .inl (k 2, 1001, .inr (.inl b3_x8)))] H := hP
  have hD : va_D A [(r0, .inr (5, [.ref r1, .ref r2, .int x2, .int x3, .ref h0, .ref ld, xf, x7, x8, x9, .int 0])), (h0, .inr (7, [.ref k0, .ref k1, .ref k2, .ref k3, .int 1, .int 0, .int 0, .int 0, .int st_x4, .int 0, .long ky_x5, .null])), (k1, .inl (k 1, 1001, .inl b1_x6)), (k2, .inl (k 1, 1001, .inl b2_x7)), (k3, .inl (k 2, 1001, .inr (.inl b3_x8)))] := hD
  refine lv_aload_n hx hb dX6_readVows_5 rfl (lv_at hl 0 rfl) ?_
  refine lv_iconst (v := 0) hx hb dX6_readVows_6 (by decide) ?_
  refine va_put (ci := 5) (v := .int 0) (ty := .int) (C := RX6) (T := TX6) (N := 11) hx hb hts inX6 tyX6 tyX6_ok nmX6 hown hK hP hD hS 0 rfl rfl 2 (by decide) lf62 (fun _ h9 => h9) rfl (by decide +kernel) rfl rfl (Nat.le_of_ble_eq_true rfl) dX6_readVows_7 (fun H locs hP hD hS => ?_)
  have hP : va_P D vwCl [(r0, .inr (5, [.ref r1, .ref r2, .int 0, .int x3, .ref h0, .ref ld, xf, x7, x8, x9, .int 0])), (h0, .inr (7, [.ref k0, .ref k1, .ref k2, .ref k3, .int 1, .int 0, .int 0, .int 0, .int st_x4, .int 0, .long ky_x5, .null])), (k1, .inl (k 1, 1001, .inl b1_x6)), (k2, .inl (k 1, 1001, .inl b2_x7)), (k3, .inl (k 2, 1001, .inr (.inl b3_x8)))] H := hP
  have hD : va_D A [(r0, .inr (5, [.ref r1, .ref r2, .int 0, .int x3, .ref h0, .ref ld, xf, x7, x8, x9, .int 0])), (h0, .inr (7, [.ref k0, .ref k1, .ref k2, .ref k3, .int 1, .int 0, .int 0, .int 0, .int st_x4, .int 0, .long ky_x5, .null])), (k1, .inl (k 1, 1001, .inl b1_x6)), (k2, .inl (k 1, 1001, .inl b2_x7)), (k3, .inl (k 2, 1001, .inr (.inl b3_x8)))] := hD
  refine lv_iconst (v := 0) hx hb dX6_readVows_10 (by decide) ?_
  refine lv_istore_n (lv' := [(2, .int 0), (0, .ref r0), (1, .ref ld)]) hx hb dX6_readVows_11 rfl hl (by decide) rfl (fun ls hl => ?_)
  refine lv_iload_n hx hb dX6_readVows_12 rfl (lv_at hl 0 rfl) ?_
  refine lv_bipush (v := 24) hx hb dX6_readVows_13 (by decide) ?_
  refine lv_icmp_gt (tgt := 43) hx hb dX6_readVows_15 (by decide) (fun h9 => absurd h9 (by decide)) (fun cx9 => ?_)
  refine lv_aload_n hx hb dX6_readVows_18 rfl (lv_at hl 1 rfl) ?_
  refine p_ji (wr := [(k1, .inl (k 1, 1001, .inl b1_x6)), (k2, .inl (k 1, 1001, .inl b2_x7)), (k3, .inl (k 2, 1001, .inr (.inl b3_x8)))]) (va_runV (As := []) (rest := []) ⟨hx, hb, hml, hown, hts⟩ (c_Reader_goesOn l D k _ r0 r1 r2 h0 k0 k1 k2 k3 0 x3 (.ref ld) xf x7 x8 x9 st_x4 ky_x5) (cwV 0 hts pg_Reader_readVows_1 rfl rfl rfl (by decide +kernel) ⟨Nat.le_of_ble_eq_true rfl, Nat.le_of_ble_eq_true rfl⟩) (pV hK hN hP hD [0, 1] rfl (by decide) rfl 0 rfl rfl) rfl rfl hl.1 rfl (lv_room (Nat.le_of_ble_eq_true rfl)) dX6_readVows_19 ⟨by decide, by decide⟩) hP hD hS hA [0, 1] [2, 3, 4] rfl rfl (by decide) (by decide) (fun rx12 ux10 H locs wx11 hP hD hS => ?_)
  have hx13 : rx12 = 0 := wx11
  subst hx13
  have hP : va_P D vwCl [(k1, .inl (k 1, 1001, .inl b1_x6)), (k2, .inl (k 1, 1001, .inl b2_x7)), (k3, .inl (k 2, 1001, .inr (.inl b3_x8))), (r0, .inr (5, [.ref r1, .ref r2, .int 0, .int x3, .ref h0, .ref ld, xf, x7, x8, x9, .int 0])), (h0, .inr (7, [.ref k0, .ref k1, .ref k2, .ref k3, .int 1, .int 0, .int 0, .int 0, .int st_x4, .int 0, .long ky_x5, .null]))] H := hP
  have hD : va_D A [(k1, .inl (k 1, 1001, .inl b1_x6)), (k2, .inl (k 1, 1001, .inl b2_x7)), (k3, .inl (k 2, 1001, .inr (.inl b3_x8))), (r0, .inr (5, [.ref r1, .ref r2, .int 0, .int x3, .ref h0, .ref ld, xf, x7, x8, x9, .int 0])), (h0, .inr (7, [.ref k0, .ref k1, .ref k2, .ref k3, .int 1, .int 0, .int 0, .int 0, .int st_x4, .int 0, .long ky_x5, .null]))] := hD
  refine lv_if_eq (tgt := 43) hx hb dX6_readVows_22 (by decide) (fun cx14 => ?_) (fun h9 => absurd (by decide) h9)
  refine lv_aload_n hx hb dX6_readVows_43 rfl (lv_at hl 1 rfl) ?_
  refine va_get (ci := 5) (v := .int 0) (C := RX6) (T := TX6) (N := 11) hx hb hts inX6 hown hK hP 3 rfl rfl 10 (by decide) lf56 (fun _ h9 => h9) rfl dX6_readVows_44 ?_
  exact hret _ _ _ _ _ _ 0 (st_x4, ky_x5, b1_x6, b2_x7, b3_x8) (by decide) (by decide) dX6_readVows_47 rfl rfl (hP.sub [3, 4, 0, 1, 2] rfl) (hD.sub [3, 4, 0, 1, 2] (by decide) rfl) hS
def pw_Reader_readWill : List Cond := .code yX6_readWill cX6_readWill 2 (some .int) :: ([.fieldLink RX6 22 "RiverVows$Reader" "land" "LRiverVows$Land;", .code yX6_begin cX6_begin 2 none, .fieldLink RX6 56 "RiverVows$Reader" "fault" "I", .fieldLink RX6 18 "RiverVows$Reader" "scan" "LRiverVows$Scanner;", .code yX8_begin cX8_begin 3 none, .fieldLink RX8 30 "RiverVows$Scanner" "tokens" "I", .fieldLink RX8 26 "RiverVows$Scanner" "length" "I", .code yX8_keep cX8_keep 5 none, .fieldLink RX8 15 "RiverVows$Scanner" "kinds" "[I", .fieldLink RX8 19 "RiverVows$Scanner" "starts" "[I", .fieldLink RX8 22 "RiverVows$Scanner" "keys" "[J", .methodLink RX8 37 yX8_keep, .instanceMethod yX8_keep, .selects RX8 yX8_keep yX8_keep, .initialized RX8, .fieldLink RX8 41 "RiverVows$Scanner" "next" "I", .code yX8_advance cX8_advance 2 none, .fieldLink RX8 47 "RiverVows$Scanner" "kind" "I", .fieldLink RX8 50 "RiverVows$Scanner" "start" "I", .fieldLink RX8 53 "RiverVows$Scanner" "key" "J", .fieldLink RX8 57 "RiverVows$Scanner" "letters" "I", .fieldLink RX8 60 "RiverVows$Scanner" "word" "LRiverVows$Word;", .methodLink RX8 44 yX8_advance, .instanceMethod yX8_advance, .selects RX8 yX8_advance yX8_advance, .methodLink RX6 74 yX8_begin, .instanceMethod yX8_begin, .selects RX8 yX8_begin yX8_begin, .methodLink RX6 35 yX6_begin, .instanceMethod yX6_begin, .selects RX6 yX6_begin yX6_begin, .initialized RX6, .fieldLink RX6 68 "RiverVows$Reader" "heirs" "I", .code yX6_goesOn cX6_goesOn 1 (some .boolean), .fieldLink RX6 78 "RiverVows$Scanner" "kind" "I", .methodLink RX6 46 yX6_goesOn, .instanceMethod yX6_goesOn, .selects RX6 yX6_goesOn yX6_goesOn] ++ wsX60 ++ wsX80)
set_option maxRecDepth 20000 in
theorem pg_Reader_readWill_0 : GoodIn pw_Reader_readWill (wsV RX6 35 RX6 yX6_begin pw_Reader_begin) := goodIn_sub (by decide +kernel) (by decide +kernel)
set_option maxRecDepth 20000 in
theorem pg_Reader_readWill_1 : GoodIn pw_Reader_readWill (wsV RX6 46 RX6 yX6_goesOn pw_Reader_goesOn) := goodIn_sub (by decide +kernel) (by decide +kernel)
set_option maxHeartbeats 4000000 in
set_option maxRecDepth 100000 in
theorem c_Reader_readWill (l : Launch) (D : va_G) (k : Nat → ClassId) (sz : Nat) (r0 : Nat) (r1 : Nat) (r2 : Nat) (h0 : Nat) (k0 : Nat) (k1 : Nat) (k2 : Nat) (k3 : Nat) (xl2 : Nat) (x2 : Int32) (x3 : Int32) (xf : Value) (x7 : Value) (x8 : Value) (x9 : Value) (x10 : Int32) (w5 : Int32) (w6 : Int32) (w7 : Int32) (w8 : Int32) (w9 : Int32) (w10 : Int64) (f1 : Nat → Int32) (f2 : Nat → Int32) (f3 : Nat → Int64)  : pMi l yX6_readWill pw_Reader_readWill ({ frames := 3, cells := 0, slots := 0, locals := 67 }) D k [.ref r0] [(r0, .inr (5, [.ref r1, .ref r2, .int x2, .int x3, .ref h0, .ref xl2, xf, x7, x8, x9, .int x10])), (h0, .inr (7, [.ref k0, .ref k1, .ref k2, .ref k3, .int w5, .int w6, .int 0, .int w7, .int w8, .int w9, .long w10, .null])), (k1, .inl (k 1, 1001, .inl f1)), (k2, .inl (k 1, 1001, .inl f2)), (k3, .inl (k 2, 1001, .inr (.inl f3)))] sz (S := Int32 × Int64 × (Nat → Int32) × (Nat → Int32) × (Nat → Int64)) (fun r u => r = 0) (fun u => [(r0, .inr (5, [.ref r1, .ref r2, .int x2, .int 0, .ref h0, .ref xl2, xf, x7, x8, x9, .int 0])), (h0, .inr (7, [.ref k0, .ref k1, .ref k2, .ref k3, .int 1, .int 0, .int 0, .int 0, .int u.1, .int 0, .long u.2.1, .null])), (k1, .inl (k 1, 1001, .inl u.2.2.1)), (k2, .inl (k 1, 1001, .inl u.2.2.2.1)), (k3, .inl (k 2, 1001, .inr (.inl u.2.2.2.2)))]) 0 0 := by
  refine p_ofi (cc := cX6_readWill) (maxL := 2) (rt := .int) (by decide) rfl (Nat.le_of_ble_eq_true rfl) ?_
  intro p e s m below meth c hx hb hml hown hts hK hN A hA hP hD hS Q hret ls hl
  have hl : lv_has ls 2 [(0, .ref r0)] := hl
  have lf22 := hts (.fieldLink RX6 22 "RiverVows$Reader" "land" "LRiverVows$Land;") (by decide +kernel)
  have inX6 : ∀ w ∈ wsX60, w ∈ pw_Reader_readWill := by decide +kernel
  have lf68 := hts (.fieldLink RX6 68 "RiverVows$Reader" "heirs" "I") (by decide +kernel)
  have lf56 := hts (.fieldLink RX6 56 "RiverVows$Reader" "fault" "I") (by decide +kernel)
  refine lv_aload_n hx hb dX6_readWill_0 rfl (lv_at hl 0 rfl) ?_
  refine lv_aload_n hx hb dX6_readWill_1 rfl (lv_at hl 0 rfl) ?_
  refine va_get (ci := 5) (v := .ref xl2) (C := RX6) (T := TX6) (N := 11) hx hb hts inX6 hown hK hP 0 rfl rfl 5 (by decide) lf22 (fun _ h9 => h9) rfl dX6_readWill_2 ?_
  refine p_jv (wr := []) (va_runV (As := [.ref xl2]) (rest := []) ⟨hx, hb, hml, hown, hts⟩ (c_Reader_begin l D k _ r0 r1 r2 h0 k0 k1 k2 k3 xl2 x2 x3 (.ref xl2) xf x7 x8 x9 x10 w5 w6 w7 w8 w9 w10 f1 f2 f3) (cwV 1 hts pg_Reader_readWill_0 rfl rfl rfl (by decide +kernel) ⟨Nat.le_of_ble_eq_true rfl, Nat.le_of_ble_eq_true rfl⟩) (pV hK hN hP hD [0, 1, 2, 3, 4] rfl (by decide) rfl 0 rfl rfl) rfl rfl hl.1 rfl (lv_room (Nat.le_of_ble_eq_true rfl)) dX6_readWill_5 ⟨by decide, by decide⟩) hP hD hS hA [0, 1, 2, 3, 4] [] rfl rfl (by decide) (by decide) (fun ux1 H locs wx2 hP hD hS => ?_)
  obtain ⟨st_x4, ky_x5, b1_x6, b2_x7, b3_x8⟩ := ux1
  have hP : va_P D vwCl [(r0, .inr (5, [.ref r1, .ref r2, .int x2, .int x3, .ref h0, .ref xl2, xf, x7, x8, x9, .int 0])), (h0, .inr (7, [.ref k0, .ref k1, .ref k2, .ref k3, .int 1, .int 0, .int 0, .int 0, .int st_x4, .int 0, .long ky_x5, .null])), (k1, .inl (k 1, 1001, .inl b1_x6)), (k2, .inl (k 1, 1001, .inl b2_x7)), (k3, .inl (k 2, 1001, .inr (.inl b3_x8)))] H := hP
  have hD : va_D A [(r0, .inr (5, [.ref r1, .ref r2, .int x2, .int x3, .ref h0, .ref xl2, xf, x7, x8, x9, .int 0])), (h0, .inr (7, [.ref k0, .ref k1, .ref k2, .ref k3, .int 1, .int 0, .int 0, .int 0, .int st_x4, .int 0, .long ky_x5, .null])), (k1, .inl (k 1, 1001, .inl b1_x6)), (k2, .inl (k 1, 1001, .inl b2_x7)), (k3, .inl (k 2, 1001, .inr (.inl b3_x8)))] := hD
  refine lv_aload_n hx hb dX6_readWill_8 rfl (lv_at hl 0 rfl) ?_
  refine lv_iconst (v := 0) hx hb dX6_readWill_9 (by decide) ?_
  refine va_put (ci := 5) (v := .int 0) (ty := .int) (C := RX6) (T := TX6) (N := 11) hx hb hts inX6 tyX6 tyX6_ok nmX6 hown hK hP hD hS 0 rfl rfl 3 (by decide) lf68 (fun _ h9 => h9) rfl (by decide +kernel) rfl rfl (Nat.le_of_ble_eq_true rfl) dX6_readWill_10 (fun H locs hP hD hS => ?_)
  have hP : va_P D vwCl [(r0, .inr (5, [.ref r1, .ref r2, .int x2, .int 0, .ref h0, .ref xl2, xf, x7, x8, x9, .int 0])), (h0, .inr (7, [.ref k0, .ref k1, .ref k2, .ref k3, .int 1, .int 0, .int 0, .int 0, .int st_x4, .int 0, .long ky_x5, .null])), (k1, .inl (k 1, 1001, .inl b1_x6)), (k2, .inl (k 1, 1001, .inl b2_x7)), (k3, .inl (k 2, 1001, .inr (.inl b3_x8)))] H := hP
  have hD : va_D A [(r0, .inr (5, [.ref r1, .ref r2, .int x2, .int 0, .ref h0, .ref xl2, xf, x7, x8, x9, .int 0])), (h0, .inr (7, [.ref k0, .ref k1, .ref k2, .ref k3, .int 1, .int 0, .int 0, .int 0, .int st_x4, .int 0, .long ky_x5, .null])), (k1, .inl (k 1, 1001, .inl b1_x6)), (k2, .inl (k 1, 1001, .inl b2_x7)), (k3, .inl (k 2, 1001, .inr (.inl b3_x8)))] := hD
  refine lv_iconst (v := 0) hx hb dX6_readWill_13 (by decide) ?_
  refine lv_istore_n (lv' := [(1, .int 0), (0, .ref r0)]) hx hb dX6_readWill_14 rfl hl (by decide) rfl (fun ls hl => ?_)
  refine lv_iload_n hx hb dX6_readWill_15 rfl (lv_at hl 0 rfl) ?_
  refine lv_bipush (v := 6) hx hb dX6_readWill_16 (by decide) ?_
  refine lv_icmp_gt (tgt := 46) hx hb dX6_readWill_18 (by decide) (fun h9 => absurd h9 (by decide)) (fun cx9 => ?_)
  refine lv_aload_n hx hb dX6_readWill_21 rfl (lv_at hl 1 rfl) ?_
  refine p_ji (wr := [(k1, .inl (k 1, 1001, .inl b1_x6)), (k2, .inl (k 1, 1001, .inl b2_x7)), (k3, .inl (k 2, 1001, .inr (.inl b3_x8)))]) (va_runV (As := []) (rest := []) ⟨hx, hb, hml, hown, hts⟩ (c_Reader_goesOn l D k _ r0 r1 r2 h0 k0 k1 k2 k3 x2 0 (.ref xl2) xf x7 x8 x9 st_x4 ky_x5) (cwV 0 hts pg_Reader_readWill_1 rfl rfl rfl (by decide +kernel) ⟨Nat.le_of_ble_eq_true rfl, Nat.le_of_ble_eq_true rfl⟩) (pV hK hN hP hD [0, 1] rfl (by decide) rfl 0 rfl rfl) rfl rfl hl.1 rfl (lv_room (Nat.le_of_ble_eq_true rfl)) dX6_readWill_22 ⟨by decide, by decide⟩) hP hD hS hA [0, 1] [2, 3, 4] rfl rfl (by decide) (by decide) (fun rx12 ux10 H locs wx11 hP hD hS => ?_)
  have hx13 : rx12 = 0 := wx11
  subst hx13
  have hP : va_P D vwCl [(k1, .inl (k 1, 1001, .inl b1_x6)), (k2, .inl (k 1, 1001, .inl b2_x7)), (k3, .inl (k 2, 1001, .inr (.inl b3_x8))), (r0, .inr (5, [.ref r1, .ref r2, .int x2, .int 0, .ref h0, .ref xl2, xf, x7, x8, x9, .int 0])), (h0, .inr (7, [.ref k0, .ref k1, .ref k2, .ref k3, .int 1, .int 0, .int 0, .int 0, .int st_x4, .int 0, .long ky_x5, .null]))] H := hP
  have hD : va_D A [(k1, .inl (k 1, 1001, .inl b1_x6)), (k2, .inl (k 1, 1001, .inl b2_x7)), (k3, .inl (k 2, 1001, .inr (.inl b3_x8))), (r0, .inr (5, [.ref r1, .ref r2, .int x2, .int 0, .ref h0, .ref xl2, xf, x7, x8, x9, .int 0])), (h0, .inr (7, [.ref k0, .ref k1, .ref k2, .ref k3, .int 1, .int 0, .int 0, .int 0, .int st_x4, .int 0, .long ky_x5, .null]))] := hD
  refine lv_if_eq (tgt := 46) hx hb dX6_readWill_25 (by decide) (fun cx14 => ?_) (fun h9 => absurd (by decide) h9)
  refine lv_aload_n hx hb dX6_readWill_46 rfl (lv_at hl 1 rfl) ?_
  refine va_get (ci := 5) (v := .int 0) (C := RX6) (T := TX6) (N := 11) hx hb hts inX6 hown hK hP 3 rfl rfl 10 (by decide) lf56 (fun _ h9 => h9) rfl dX6_readWill_47 ?_
  exact hret _ _ _ _ _ _ 0 (st_x4, ky_x5, b1_x6, b2_x7, b3_x8) (by decide) (by decide) dX6_readWill_50 rfl rfl (hP.sub [3, 4, 0, 1, 2] rfl) (hD.sub [3, 4, 0, 1, 2] (by decide) rfl) hS
