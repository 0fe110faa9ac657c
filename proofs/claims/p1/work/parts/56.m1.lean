def pw_within_in : List Cond := .code yX13_within cX13_within 3 (some .boolean) :: ([])
set_option maxHeartbeats 4000000 in
set_option maxRecDepth 100000 in
theorem c_within_in (l : Launch) (D : va_G) (k : Nat → ClassId) (sz : Nat) (v : Int32) (lo : Int32) (hi : Int32) (h1 : lo ≤ v) (h2 : v ≤ hi) : pMi l yX13_within pw_within_in ({ frames := 0, cells := 0, slots := 0, locals := 0 }) D k [.int v, .int lo, .int hi] [] sz (S := Unit) (fun r9 u => r9 = 1) (fun u => []) 0 0 := by
  refine p_ofi (cc := cX13_within) (maxL := 3) (rt := .boolean) (by decide) rfl (Nat.le_of_ble_eq_true rfl) ?_
  intro p e s m below meth c hx hb hml hown hts hK hN A hA hP hD hS Q hret ls hl
  have hl : lv_has ls 3 [(0, .int v), (1, .int lo), (2, .int hi)] := hl
  refine lv_iload_n hx hb dX13_within_0 rfl (lv_at hl 0 rfl) ?_
  refine lv_iload_n hx hb dX13_within_1 rfl (lv_at hl 1 rfl) ?_
  refine lv_icmp_lt (tgt := 14) hx hb dX13_within_2 (by decide) (fun h9 => absurd h9 (Int32.not_lt.mpr h1)) (fun cx1 => ?_)
  refine lv_iload_n hx hb dX13_within_5 rfl (lv_at hl 0 rfl) ?_
  refine lv_iload_n hx hb dX13_within_6 rfl (lv_at hl 2 rfl) ?_
  refine lv_icmp_gt (tgt := 14) hx hb dX13_within_7 (by decide) (fun h9 => absurd h9 (Int32.not_lt.mpr h2)) (fun cx2 => ?_)
  refine lv_iconst (v := 1) hx hb dX13_within_10 (by decide) ?_
  refine lv_goto (tgt := 15) hx hb dX13_within_11 (by decide) ?_
  exact hret _ _ _ _ _ _ 1 () (by decide) (by decide) dX13_within_15 rfl rfl (hP.sub [] rfl) (hD.sub [] (by decide) rfl) hS
def pw_within_lo : List Cond := .code yX13_within cX13_within 3 (some .boolean) :: ([])
set_option maxHeartbeats 4000000 in
set_option maxRecDepth 100000 in
theorem c_within_lo (l : Launch) (D : va_G) (k : Nat → ClassId) (sz : Nat) (v : Int32) (lo : Int32) (hi : Int32) (h1 : v < lo) : pMi l yX13_within pw_within_lo ({ frames := 0, cells := 0, slots := 0, locals := 0 }) D k [.int v, .int lo, .int hi] [] sz (S := Unit) (fun r9 u => r9 = 0) (fun u => []) 0 0 := by
  refine p_ofi (cc := cX13_within) (maxL := 3) (rt := .boolean) (by decide) rfl (Nat.le_of_ble_eq_true rfl) ?_
  intro p e s m below meth c hx hb hml hown hts hK hN A hA hP hD hS Q hret ls hl
  have hl : lv_has ls 3 [(0, .int v), (1, .int lo), (2, .int hi)] := hl
  refine lv_iload_n hx hb dX13_within_0 rfl (lv_at hl 0 rfl) ?_
  refine lv_iload_n hx hb dX13_within_1 rfl (lv_at hl 1 rfl) ?_
  refine lv_icmp_lt (tgt := 14) hx hb dX13_within_2 (by decide) (fun cx1 => ?_) (fun h9 => absurd h1 h9)
  refine lv_iconst (v := 0) hx hb dX13_within_14 (by decide) ?_
  exact hret _ _ _ _ _ _ 0 () (by decide) (by decide) dX13_within_15 rfl rfl (hP.sub [] rfl) (hD.sub [] (by decide) rfl) hS
def pw_within_hi : List Cond := .code yX13_within cX13_within 3 (some .boolean) :: ([])
set_option maxHeartbeats 4000000 in
set_option maxRecDepth 100000 in
theorem c_within_hi (l : Launch) (D : va_G) (k : Nat → ClassId) (sz : Nat) (v : Int32) (lo : Int32) (hi : Int32) (h1 : hi < v) : pMi l yX13_within pw_within_hi ({ frames := 0, cells := 0, slots := 0, locals := 0 }) D k [.int v, .int lo, .int hi] [] sz (S := Unit) (fun r9 u => r9 = 0) (fun u => []) 0 0 := by
  refine p_ofi (cc := cX13_within) (maxL := 3) (rt := .boolean) (by decide) rfl (Nat.le_of_ble_eq_true rfl) ?_
  intro p e s m below meth c hx hb hml hown hts hK hN A hA hP hD hS Q hret ls hl
  have hl : lv_has ls 3 [(0, .int v), (1, .int lo), (2, .int hi)] := hl
  refine lv_iload_n hx hb dX13_within_0 rfl (lv_at hl 0 rfl) ?_
  refine lv_iload_n hx hb dX13_within_1 rfl (lv_at hl 1 rfl) ?_
  refine lv_icmp_lt (tgt := 14) hx hb dX13_within_2 (by decide) (fun cx1 => ?_) (fun cx1 => ?_)
  · skip
    refine lv_iconst (v := 0) hx hb dX13_within_14 (by decide) ?_
    exact hret _ _ _ _ _ _ 0 () (by decide) (by decide) dX13_within_15 rfl rfl (hP.sub [] rfl) (hD.sub [] (by decide) rfl) hS
  · skip
    refine lv_iload_n hx hb dX13_within_5 rfl (lv_at hl 0 rfl) ?_
    refine lv_iload_n hx hb dX13_within_6 rfl (lv_at hl 2 rfl) ?_
    refine lv_icmp_gt (tgt := 14) hx hb dX13_within_7 (by decide) (fun cx2 => ?_) (fun h9 => absurd h1 h9)
    refine lv_iconst (v := 0) hx hb dX13_within_14 (by decide) ?_
    exact hret _ _ _ _ _ _ 0 () (by decide) (by decide) dX13_within_15 rfl rfl (hP.sub [] rfl) (hD.sub [] (by decide) rfl) hS
def pw_within_any : List Cond := .code yX13_within cX13_within 3 (some .boolean) :: ([])
set_option maxHeartbeats 4000000 in
set_option maxRecDepth 100000 in
theorem c_within_any (l : Launch) (D : va_G) (k : Nat → ClassId) (sz : Nat) (v : Int32) (lo : Int32) (hi : Int32)  : pMi l yX13_within pw_within_any ({ frames := 0, cells := 0, slots := 0, locals := 0 }) D k [.int v, .int lo, .int hi] [] sz (S := Unit) (fun r9 u => True) (fun u => []) 0 0 := by
  refine p_ofi (cc := cX13_within) (maxL := 3) (rt := .boolean) (by decide) rfl (Nat.le_of_ble_eq_true rfl) ?_
  intro p e s m below meth c hx hb hml hown hts hK hN A hA hP hD hS Q hret ls hl
  have hl : lv_has ls 3 [(0, .int v), (1, .int lo), (2, .int hi)] := hl
  refine lv_iload_n hx hb dX13_within_0 rfl (lv_at hl 0 rfl) ?_
  refine lv_iload_n hx hb dX13_within_1 rfl (lv_at hl 1 rfl) ?_
  refine lv_icmp_lt (tgt := 14) hx hb dX13_within_2 (by decide) (fun cx1 => ?_) (fun cx1 => ?_)
  · skip
    refine lv_iconst (v := 0) hx hb dX13_within_14 (by decide) ?_
    exact hret _ _ _ _ _ _ 0 () (by decide) (by decide) dX13_within_15 rfl trivial (hP.sub [] rfl) (hD.sub [] (by decide) rfl) hS
  · skip
    refine lv_iload_n hx hb dX13_within_5 rfl (lv_at hl 0 rfl) ?_
    refine lv_iload_n hx hb dX13_within_6 rfl (lv_at hl 2 rfl) ?_
    refine lv_icmp_gt (tgt := 14) hx hb dX13_within_7 (by decide) (fun cx2 => ?_) (fun cx2 => ?_)
    · skip
      refine lv_iconst (v := 0) hx hb dX13_within_14 (by decide) ?_
      exact hret _ _ _ _ _ _ 0 () (by decide) (by decide) dX13_within_15 rfl trivial (hP.sub [] rfl) (hD.sub [] (by decide) rfl) hS
    · skip
      refine lv_iconst (v := 1) hx hb dX13_within_10 (by decide) ?_
      refine lv_goto (tgt := 15) hx hb dX13_within_11 (by decide) ?_
      exact hret _ _ _ _ _ _ 1 () (by decide) (by decide) dX13_within_15 rfl trivial (hP.sub [] rfl) (hD.sub [] (by decide) rfl) hS
def pw_m_rivers : List Cond := .code yX13_rivers cX13_rivers 1 (some .int) :: ([.fieldLink RX13 99 "RiverVowsModel" "lands" "[I"] ++ wsX130)
set_option maxHeartbeats 4000000 in
set_option maxRecDepth 100000 in
theorem c_m_rivers (l : Launch) (D : va_G) (k : Nat → ClassId) (sz : Nat) (ma : Nat → Nat) (i0 : Int32) (i2 : Int32) (i3 : Int32) (i7 : Int32) (i8 : Int32) (i13 : Int32) (i16 : Int32) (i17 : Int32) (i23 : Int32) (i25 : Int32) (i27 : Int32) (i28 : Int32) (i29 : Int32) (i30 : Int32) (i36 : Int32) (i37 : Int32) (i41 : Int64) (fl : Nat → Int32) (hl0 : fl 0 = 0) : pMi l yX13_rivers pw_m_rivers ({ frames := 0, cells := 0, slots := 0, locals := 0 }) D k [.ref (ma 0)] [((ma 0), .inr (10, [.int i0, .ref (ma 1), .int i2, .int i3, .ref (ma 4), .ref (ma 5), .ref (ma 6), .int i7, .int i8, .ref (ma 9), .ref (ma 10), .ref (ma 11), .ref (ma 12), .int i13, .ref (ma 14), .ref (ma 15), .int i16, .int i17, .ref (ma 18), .ref (ma 19), .ref (ma 20), .ref (ma 21), .ref (ma 22), .int i23, .ref (ma 24), .int i25, .ref (ma 26), .int i27, .int i28, .int i29, .int i30, .ref (ma 31), .ref (ma 32), .ref (ma 33), .ref (ma 34), .ref (ma 35), .int i36, .int i37, .ref (ma 38), .ref (ma 39), .ref (ma 40), .long i41])), ((ma 10), .inl (k 1, 220, .inl fl))] sz (S := Unit) (fun r9 u => r9 = 0) (fun u => [((ma 0), .inr (10, [.int i0, .ref (ma 1), .int i2, .int i3, .ref (ma 4), .ref (ma 5), .ref (ma 6), .int i7, .int i8, .ref (ma 9), .ref (ma 10), .ref (ma 11), .ref (ma 12), .int i13, .ref (ma 14), .ref (ma 15), .int i16, .int i17, .ref (ma 18), .ref (ma 19), .ref (ma 20), .ref (ma 21), .ref (ma 22), .int i23, .ref (ma 24), .int i25, .ref (ma 26), .int i27, .int i28, .int i29, .int i30, .ref (ma 31), .ref (ma 32), .ref (ma 33), .ref (ma 34), .ref (ma 35), .int i36, .int i37, .ref (ma 38), .ref (ma 39), .ref (ma 40), .long i41])), ((ma 10), .inl (k 1, 220, .inl fl))]) 0 0 := by
  refine p_ofi (cc := cX13_rivers) (maxL := 1) (rt := .int) (by decide) rfl (Nat.le_of_ble_eq_true rfl) ?_
  intro p e s m below meth c hx hb hml hown hts hK hN A hA hP hD hS Q hret ls hl
  have hl : lv_has ls 1 [(0, .ref (ma 0))] := hl
  have lf99 := hts (.fieldLink RX13 99 "RiverVowsModel" "lands" "[I") (by decide +kernel)
  have inX13 : ∀ w ∈ wsX130, w ∈ pw_m_rivers := by decide +kernel
  refine lv_aload_n hx hb dX13_rivers_0 rfl (lv_at hl 0 rfl) ?_
  refine va_get (ci := 10) (v := .ref (ma 10)) (C := RX13) (T := TX13) (N := 42) hx hb hts inX13 hown hK hP 0 rfl rfl 10 (by decide) lf99 (fun _ h9 => h9) rfl dX13_rivers_1 ?_
  refine lv_iconst (v := 0) hx hb dX13_rivers_4 (by decide) ?_
  refine va_iald hx hb hK hP 1 1 rfl rfl (show ¬ (_ ∨ _) by decide) dX13_rivers_5 ?_
  refine p_topI (v := 0) hl0 ?_
  exact hret _ _ _ _ _ _ 0 () (by decide) (by decide) dX13_rivers_6 rfl rfl (hP.sub [0, 1] rfl) (hD.sub [0, 1] (by decide) rfl) hS
def pw_m_isRiver : List Cond := .code yX13_isRiver cX13_isRiver 2 (some .boolean) :: ([.code yX13_rivers cX13_rivers 1 (some .int), .fieldLink RX13 99 "RiverVowsModel" "lands" "[I", .methodLink RX13 296 yX13_rivers, .instanceMethod yX13_rivers, .selects RX13 yX13_rivers yX13_rivers, .initialized RX13] ++ wsX130)
set_option maxRecDepth 20000 in
theorem pg_m_isRiver_0 : GoodIn pw_m_isRiver (wsV RX13 296 RX13 yX13_rivers pw_m_rivers) := goodIn_sub (by decide +kernel) (by decide +kernel)
set_option maxHeartbeats 4000000 in
set_option maxRecDepth 100000 in
theorem c_m_isRiver (l : Launch) (D : va_G) (k : Nat → ClassId) (sz : Nat) (ma : Nat → Nat) (i0 : Int32) (i2 : Int32) (i3 : Int32) (i7 : Int32) (i8 : Int32) (i13 : Int32) (i16 : Int32) (i17 : Int32) (i23 : Int32) (i25 : Int32) (i27 : Int32) (i28 : Int32) (i29 : Int32) (i30 : Int32) (i36 : Int32) (i37 : Int32) (i41 : Int64) (fl : Nat → Int32) (r : Int32) (hl0 : fl 0 = 0) : pMi l yX13_isRiver pw_m_isRiver ({ frames := 1, cells := 0, slots := 0, locals := 20 }) D k [.ref (ma 0), .int r] [((ma 0), .inr (10, [.int i0, .ref (ma 1), .int i2, .int i3, .ref (ma 4), .ref (ma 5), .ref (ma 6), .int i7, .int i8, .ref (ma 9), .ref (ma 10), .ref (ma 11), .ref (ma 12), .int i13, .ref (ma 14), .ref (ma 15), .int i16, .int i17, .ref (ma 18), .ref (ma 19), .ref (ma 20), .ref (ma 21), .ref (ma 22), .int i23, .ref (ma 24), .int i25, .ref (ma 26), .int i27, .int i28, .int i29, .int i30, .ref (ma 31), .ref (ma 32), .ref (ma 33), .ref (ma 34), .ref (ma 35), .int i36, .int i37, .ref (ma 38), .ref (ma 39), .ref (ma 40), .long i41])), ((ma 10), .inl (k 1, 220, .inl fl))] sz (S := Unit) (fun r9 u => r9 = 0) (fun u => [((ma 0), .inr (10, [.int i0, .ref (ma 1), .int i2, .int i3, .ref (ma 4), .ref (ma 5), .ref (ma 6), .int i7, .int i8, .ref (ma 9), .ref (ma 10), .ref (ma 11), .ref (ma 12), .int i13, .ref (ma 14), .ref (ma 15), .int i16, .int i17, .ref (ma 18), .ref (ma 19), .ref (ma 20), .ref (ma 21), .ref (ma 22), .int i23, .ref (ma 24), .int i25, .ref (ma 26), .int i27, .int i28, .int i29, .int i30, .ref (ma 31), .ref (ma 32), .ref (ma 33), .ref (ma 34), .ref (ma 35), .int i36, .int i37, .ref (ma 38), .ref (ma 39), .ref (ma 40), .long i41])), ((ma 10), .inl (k 1, 220, .inl fl))]) 0 0 := by
  refine p_ofi (cc := cX13_isRiver) (maxL := 2) (rt := .boolean) (by decide) rfl (Nat.le_of_ble_eq_true rfl) ?_
  intro p e s m below meth c hx hb hml hown hts hK hN A hA hP hD hS Q hret ls hl
  have hl : lv_has ls 2 [(0, .ref (ma 0)), (1, .int r)] := hl
  refine lv_iload_n hx hb dX13_isRiver_0 rfl (lv_at hl 1 rfl) ?_
  refine lv_if_lt (tgt := 16) hx hb dX13_isRiver_1 (by decide) (fun cx1 => ?_) (fun cx1 => ?_)
  · skip
    refine lv_iconst (v := 0) hx hb dX13_isRiver_16 (by decide) ?_
    exact hret _ _ _ _ _ _ 0 () (by decide) (by decide) dX13_isRiver_17 rfl rfl (hP.sub [0, 1] rfl) (hD.sub [0, 1] (by decide) rfl) hS
  · skip
    refine lv_iload_n hx hb dX13_isRiver_4 rfl (lv_at hl 1 rfl) ?_
    refine lv_aload_n hx hb dX13_isRiver_5 rfl (lv_at hl 0 rfl) ?_
    refine p_ji (wr := []) (va_runV (As := []) (rest := [.int r]) ⟨hx, hb, hml, hown, hts⟩ (c_m_rivers l D k _ ma i0 i2 i3 i7 i8 i13 i16 i17 i23 i25 i27 i28 i29 i30 i36 i37 i41 fl hl0) (cwV 0 hts pg_m_isRiver_0 rfl rfl rfl (by decide +kernel) ⟨Nat.le_of_ble_eq_true rfl, Nat.le_of_ble_eq_true rfl⟩) (pV hK hN hP hD [0, 1] rfl (by decide) rfl 0 rfl rfl) rfl rfl hl.1 rfl (lv_room (Nat.le_of_ble_eq_true rfl)) dX13_isRiver_6 ⟨by decide, by decide⟩) hP hD hS hA [0, 1] [] rfl rfl (by decide) (by decide) (fun rx4 ux2 H locs wx3 hP hD hS => ?_)
    have hx5 : rx4 = 0 := wx3
    subst hx5
    have hP : va_P D vwCl [((ma 0), .inr (10, [.int i0, .ref (ma 1), .int i2, .int i3, .ref (ma 4), .ref (ma 5), .ref (ma 6), .int i7, .int i8, .ref (ma 9), .ref (ma 10), .ref (ma 11), .ref (ma 12), .int i13, .ref (ma 14), .ref (ma 15), .int i16, .int i17, .ref (ma 18), .ref (ma 19), .ref (ma 20), .ref (ma 21), .ref (ma 22), .int i23, .ref (ma 24), .int i25, .ref (ma 26), .int i27, .int i28, .int i29, .int i30, .ref (ma 31), .ref (ma 32), .ref (ma 33), .ref (ma 34), .ref (ma 35), .int i36, .int i37, .ref (ma 38), .ref (ma 39), .ref (ma 40), .long i41])), ((ma 10), .inl (k 1, 220, .inl fl))] H := hP
    have hD : va_D A [((ma 0), .inr (10, [.int i0, .ref (ma 1), .int i2, .int i3, .ref (ma 4), .ref (ma 5), .ref (ma 6), .int i7, .int i8, .ref (ma 9), .ref (ma 10), .ref (ma 11), .ref (ma 12), .int i13, .ref (ma 14), .ref (ma 15), .int i16, .int i17, .ref (ma 18), .ref (ma 19), .ref (ma 20), .ref (ma 21), .ref (ma 22), .int i23, .ref (ma 24), .int i25, .ref (ma 26), .int i27, .int i28, .int i29, .int i30, .ref (ma 31), .ref (ma 32), .ref (ma 33), .ref (ma 34), .ref (ma 35), .int i36, .int i37, .ref (ma 38), .ref (ma 39), .ref (ma 40), .long i41])), ((ma 10), .inl (k 1, 220, .inl fl))] := hD
    refine lv_icmp_ge (tgt := 16) hx hb dX13_isRiver_9 (by decide) (fun cx6 => ?_) (fun h9 => absurd (show 0 ≤ r by revert cx1; simp only [Int32.lt_iff_toInt_lt, Int32.le_iff_toInt_le, ← Int32.toInt_inj, (by decide : (0 : Int32).toInt = 0)]; omega) h9)
    refine lv_iconst (v := 0) hx hb dX13_isRiver_16 (by decide) ?_
    exact hret _ _ _ _ _ _ 0 () (by decide) (by decide) dX13_isRiver_17 rfl rfl (hP.sub [0, 1] rfl) (hD.sub [0, 1] (by decide) rfl) hS
def pw_m_hasTown : List Cond := .code yX13_hasTown cX13_hasTown 3 (some .boolean) :: ([.code yX13_isRiver cX13_isRiver 2 (some .boolean), .code yX13_rivers cX13_rivers 1 (some .int), .fieldLink RX13 99 "RiverVowsModel" "lands" "[I", .methodLink RX13 296 yX13_rivers, .instanceMethod yX13_rivers, .selects RX13 yX13_rivers yX13_rivers, .initialized RX13, .methodLink RX13 336 yX13_isRiver, .instanceMethod yX13_isRiver, .selects RX13 yX13_isRiver yX13_isRiver] ++ wsX130)
set_option maxRecDepth 20000 in
theorem pg_m_hasTown_0 : GoodIn pw_m_hasTown (wsV RX13 336 RX13 yX13_isRiver pw_m_isRiver) := goodIn_sub (by decide +kernel) (by decide +kernel)
set_option maxHeartbeats 4000000 in
set_option maxRecDepth 100000 in
theorem c_m_hasTown (l : Launch) (D : va_G) (k : Nat → ClassId) (sz : Nat) (ma : Nat → Nat) (i0 : Int32) (i2 : Int32) (i3 : Int32) (i7 : Int32) (i8 : Int32) (i13 : Int32) (i16 : Int32) (i17 : Int32) (i23 : Int32) (i25 : Int32) (i27 : Int32) (i28 : Int32) (i29 : Int32) (i30 : Int32) (i36 : Int32) (i37 : Int32) (i41 : Int64) (fl : Nat → Int32) (r : Int32) (s0 : Int32) (hl0 : fl 0 = 0) : pMi l yX13_hasTown pw_m_hasTown ({ frames := 2, cells := 0, slots := 0, locals := 41 }) D k [.ref (ma 0), .int r, .int s0] [((ma 0), .inr (10, [.int i0, .ref (ma 1), .int i2, .int i3, .ref (ma 4), .ref (ma 5), .ref (ma 6), .int i7, .int i8, .ref (ma 9), .ref (ma 10), .ref (ma 11), .ref (ma 12), .int i13, .ref (ma 14), .ref (ma 15), .int i16, .int i17, .ref (ma 18), .ref (ma 19), .ref (ma 20), .ref (ma 21), .ref (ma 22), .int i23, .ref (ma 24), .int i25, .ref (ma 26), .int i27, .int i28, .int i29, .int i30, .ref (ma 31), .ref (ma 32), .ref (ma 33), .ref (ma 34), .ref (ma 35), .int i36, .int i37, .ref (ma 38), .ref (ma 39), .ref (ma 40), .long i41])), ((ma 10), .inl (k 1, 220, .inl fl))] sz (S := Unit) (fun r9 u => r9 = 0) (fun u => [((ma 0), .inr (10, [.int i0, .ref (ma 1), .int i2, .int i3, .ref (ma 4), .ref (ma 5), .ref (ma 6), .int i7, .int i8, .ref (ma 9), .ref (ma 10), .ref (ma 11), .ref (ma 12), .int i13, .ref (ma 14), .ref (ma 15), .int i16, .int i17, .ref (ma 18), .ref (ma 19), .ref (ma 20), .ref (ma 21), .ref (ma 22), .int i23, .ref (ma 24), .int i25, .ref (ma 26), .int i27, .int i28, .int i29, .int i30, .ref (ma 31), .ref (ma 32), .ref (ma 33), .ref (ma 34), .ref (ma 35), .int i36, .int i37, .ref (ma 38), .ref (ma 39), .ref (ma 40), .long i41])), ((ma 10), .inl (k 1, 220, .inl fl))]) 0 0 := by
  refine p_ofi (cc := cX13_hasTown) (maxL := 3) (rt := .boolean) (by decide) rfl (Nat.le_of_ble_eq_true rfl) ?_
  intro p e s m below meth c hx hb hml hown hts hK hN A hA hP hD hS Q hret ls hl
  have hl : lv_has ls 3 [(0, .ref (ma 0)), (1, .int r), (2, .int s0)] := hl
  refine lv_aload_n hx hb dX13_hasTown_0 rfl (lv_at hl 0 rfl) ?_
  refine lv_iload_n hx hb dX13_hasTown_1 rfl (lv_at hl 1 rfl) ?_
  refine p_ji (wr := []) (va_runV (As := [.int r]) (rest := []) ⟨hx, hb, hml, hown, hts⟩ (c_m_isRiver l D k _ ma i0 i2 i3 i7 i8 i13 i16 i17 i23 i25 i27 i28 i29 i30 i36 i37 i41 fl r hl0) (cwV 1 hts pg_m_hasTown_0 rfl rfl rfl (by decide +kernel) ⟨Nat.le_of_ble_eq_true rfl, Nat.le_of_ble_eq_true rfl⟩) (pV hK hN hP hD [0, 1] rfl (by decide) rfl 0 rfl rfl) rfl rfl hl.1 rfl (lv_room (Nat.le_of_ble_eq_true rfl)) dX13_hasTown_2 ⟨by decide, by decide⟩) hP hD hS hA [0, 1] [] rfl rfl (by decide) (by decide) (fun rx3 ux1 H locs wx2 hP hD hS => ?_)
  have hx4 : rx3 = 0 := wx2
  subst hx4
  have hP : va_P D vwCl [((ma 0), .inr (10, [.int i0, .ref (ma 1), .int i2, .int i3, .ref (ma 4), .ref (ma 5), .ref (ma 6), .int i7, .int i8, .ref (ma 9), .ref (ma 10), .ref (ma 11), .ref (ma 12), .int i13, .ref (ma 14), .ref (ma 15), .int i16, .int i17, .ref (ma 18), .ref (ma 19), .ref (ma 20), .ref (ma 21), .ref (ma 22), .int i23, .ref (ma 24), .int i25, .ref (ma 26), .int i27, .int i28, .int i29, .int i30, .ref (ma 31), .ref (ma 32), .ref (ma 33), .ref (ma 34), .ref (ma 35), .int i36, .int i37, .ref (ma 38), .ref (ma 39), .ref (ma 40), .long i41])), ((ma 10), .inl (k 1, 220, .inl fl))] H := hP
  have hD : va_D A [((ma 0), .inr (10, [.int i0, .ref (ma 1), .int i2, .int i3, .ref (ma 4), .ref (ma 5), .ref (ma 6), .int i7, .int i8, .ref (ma 9), .ref (ma 10), .ref (ma 11), .ref (ma 12), .int i13, .ref (ma 14), .ref (ma 15), .int i16, .int i17, .ref (ma 18), .ref (ma 19), .ref (ma 20), .ref (ma 21), .ref (ma 22), .int i23, .ref (ma 24), .int i25, .ref (ma 26), .int i27, .int i28, .int i29, .int i30, .ref (ma 31), .ref (ma 32), .ref (ma 33), .ref (ma 34), .ref (ma 35), .int i36, .int i37, .ref (ma 38), .ref (ma 39), .ref (ma 40), .long i41])), ((ma 10), .inl (k 1, 220, .inl fl))] := hD
  refine lv_if_eq (tgt := 31) hx hb dX13_hasTown_5 (by decide) (fun cx5 => ?_) (fun h9 => absurd (by decide) h9)
  refine lv_iconst (v := 0) hx hb dX13_hasTown_31 (by decide) ?_
  exact hret _ _ _ _ _ _ 0 () (by decide) (by decide) dX13_hasTown_32 rfl rfl (hP.sub [0, 1] rfl) (hD.sub [0, 1] (by decide) rfl) hS
def pw_m_winter : List Cond := .code yX13_winter cX13_winter 2 (some .int) :: ([.fieldLink RX13 126 "RiverVowsModel" "state" "[I"] ++ wsX130)
set_option maxHeartbeats 4000000 in
set_option maxRecDepth 100000 in
theorem c_m_winter (l : Launch) (D : va_G) (k : Nat → ClassId) (sz : Nat) (ma : Nat → Nat) (i0 : Int32) (i2 : Int32) (i3 : Int32) (i7 : Int32) (i8 : Int32) (i13 : Int32) (i16 : Int32) (i17 : Int32) (i23 : Int32) (i25 : Int32) (i27 : Int32) (i28 : Int32) (i29 : Int32) (i30 : Int32) (i36 : Int32) (i37 : Int32) (i41 : Int64) (fs : Nat → Int32)  : pMi l yX13_winter pw_m_winter ({ frames := 0, cells := 0, slots := 0, locals := 0 }) D k [.ref (ma 0), .int 0] [((ma 0), .inr (10, [.int i0, .ref (ma 1), .int i2, .int i3, .ref (ma 4), .ref (ma 5), .ref (ma 6), .int i7, .int i8, .ref (ma 9), .ref (ma 10), .ref (ma 11), .ref (ma 12), .int i13, .ref (ma 14), .ref (ma 15), .int i16, .int i17, .ref (ma 18), .ref (ma 19), .ref (ma 20), .ref (ma 21), .ref (ma 22), .int i23, .ref (ma 24), .int i25, .ref (ma 26), .int i27, .int i28, .int i29, .int i30, .ref (ma 31), .ref (ma 32), .ref (ma 33), .ref (ma 34), .ref (ma 35), .int i36, .int i37, .ref (ma 38), .ref (ma 39), .ref (ma 40), .long i41])), ((ma 22), .inl (k 1, 1320, .inl fs))] sz (S := Unit) (fun r9 u => True) (fun u => [((ma 0), .inr (10, [.int i0, .ref (ma 1), .int i2, .int i3, .ref (ma 4), .ref (ma 5), .ref (ma 6), .int i7, .int i8, .ref (ma 9), .ref (ma 10), .ref (ma 11), .ref (ma 12), .int i13, .ref (ma 14), .ref (ma 15), .int i16, .int i17, .ref (ma 18), .ref (ma 19), .ref (ma 20), .ref (ma 21), .ref (ma 22), .int i23, .ref (ma 24), .int i25, .ref (ma 26), .int i27, .int i28, .int i29, .int i30, .ref (ma 31), .ref (ma 32), .ref (ma 33), .ref (ma 34), .ref (ma 35), .int i36, .int i37, .ref (ma 38), .ref (ma 39), .ref (ma 40), .long i41])), ((ma 22), .inl (k 1, 1320, .inl fs))]) 0 0 := by
  refine p_ofi (cc := cX13_winter) (maxL := 2) (rt := .int) (by decide) rfl (Nat.le_of_ble_eq_true rfl) ?_
  intro p e s m below meth c hx hb hml hown hts hK hN A hA hP hD hS Q hret ls hl
  have hl : lv_has ls 2 [(0, .ref (ma 0)), (1, .int 0)] := hl
  have lf126 := hts (.fieldLink RX13 126 "RiverVowsModel" "state" "[I") (by decide +kernel)
  have inX13 : ∀ w ∈ wsX130, w ∈ pw_m_winter := by decide +kernel
  refine lv_aload_n hx hb dX13_winter_0 rfl (lv_at hl 0 rfl) ?_
  refine va_get (ci := 10) (v := .ref (ma 22)) (C := RX13) (T := TX13) (N := 42) hx hb hts inX13 hown hK hP 0 rfl rfl 22 (by decide) lf126 (fun _ h9 => h9) rfl dX13_winter_1 ?_
  refine lv_iload_n hx hb dX13_winter_4 rfl (lv_at hl 1 rfl) ?_
  refine lv_iconst (v := 0) hx hb dX13_winter_5 (by decide) ?_
  refine lv_iadd hx hb dX13_winter_6 ?_
  refine p_topI (v := 0) (by decide) ?_
  refine va_iald hx hb hK hP 1 1 rfl rfl (show ¬ (_ ∨ _) by decide) dX13_winter_7 ?_
  refine p_topI (v := (fs 0)) rfl ?_
  refine lv_iconst (v := 4) hx hb dX13_winter_8 (by decide) ?_
  refine lv_irem hx hb dX13_winter_9 (by decide) ?_
  exact hret _ _ _ _ _ _ ((fs 0) - (fs 0) / 4 * 4) () (by decide) (by decide) dX13_winter_10 rfl trivial (hP.sub [0, 1] rfl) (hD.sub [0, 1] (by decide) rfl) hS
def pw_m_weddings_0 : List Cond := .code yX13_weddings cX13_weddings 4 (some .int) :: ([.code yX13_rivers cX13_rivers 1 (some .int), .fieldLink RX13 99 "RiverVowsModel" "lands" "[I", .methodLink RX13 296 yX13_rivers, .instanceMethod yX13_rivers, .selects RX13 yX13_rivers yX13_rivers, .initialized RX13] ++ wsX130)
set_option maxRecDepth 20000 in
theorem pg_m_weddings_0_0 : GoodIn pw_m_weddings_0 (wsV RX13 296 RX13 yX13_rivers pw_m_rivers) := goodIn_sub (by decide +kernel) (by decide +kernel)
set_option maxHeartbeats 4000000 in
set_option maxRecDepth 100000 in
theorem c_m_weddings_0 (l : Launch) (D : va_G) (k : Nat → ClassId) (sz : Nat) (ma : Nat → Nat) (i0 : Int32) (i2 : Int32) (i3 : Int32) (i7 : Int32) (i8 : Int32) (i13 : Int32) (i16 : Int32) (i17 : Int32) (i23 : Int32) (i25 : Int32) (i27 : Int32) (i28 : Int32) (i29 : Int32) (i30 : Int32) (i36 : Int32) (i37 : Int32) (i41 : Int64) (fl : Nat → Int32) (hl0 : fl 0 = 0) : pMi l yX13_weddings pw_m_weddings_0 ({ frames := 1, cells := 0, slots := 0, locals := 20 }) D k [.ref (ma 0), .int 0] [((ma 0), .inr (10, [.int i0, .ref (ma 1), .int i2, .int i3, .ref (ma 4), .ref (ma 5), .ref (ma 6), .int i7, .int i8, .ref (ma 9), .ref (ma 10), .ref (ma 11), .ref (ma 12), .int i13, .ref (ma 14), .ref (ma 15), .int i16, .int i17, .ref (ma 18), .ref (ma 19), .ref (ma 20), .ref (ma 21), .ref (ma 22), .int i23, .ref (ma 24), .int i25, .ref (ma 26), .int i27, .int i28, .int i29, .int i30, .ref (ma 31), .ref (ma 32), .ref (ma 33), .ref (ma 34), .ref (ma 35), .int i36, .int i37, .ref (ma 38), .ref (ma 39), .ref (ma 40), .long i41])), ((ma 10), .inl (k 1, 220, .inl fl))] sz (S := Unit) (fun r9 u => r9 = 0) (fun u => [((ma 0), .inr (10, [.int i0, .ref (ma 1), .int i2, .int i3, .ref (ma 4), .ref (ma 5), .ref (ma 6), .int i7, .int i8, .ref (ma 9), .ref (ma 10), .ref (ma 11), .ref (ma 12), .int i13, .ref (ma 14), .ref (ma 15), .int i16, .int i17, .ref (ma 18), .ref (ma 19), .ref (ma 20), .ref (ma 21), .ref (ma 22), .int i23, .ref (ma 24), .int i25, .ref (ma 26), .int i27, .int i28, .int i29, .int i30, .ref (ma 31), .ref (ma 32), .ref (ma 33), .ref (ma 34), .ref (ma 35), .int i36, .int i37, .ref (ma 38), .ref (ma 39), .ref (ma 40), .long i41])), ((ma 10), .inl (k 1, 220, .inl fl))]) 0 0 := by
  refine p_ofi (cc := cX13_weddings) (maxL := 4) (rt := .int) (by decide) rfl (Nat.le_of_ble_eq_true rfl) ?_
  intro p e s m below meth c hx hb hml hown hts hK hN A hA hP hD hS Q hret ls hl
  have hl : lv_has ls 4 [(0, .ref (ma 0)), (1, .int 0)] := hl
  refine lv_iconst (v := 0) hx hb dX13_weddings_0 (by decide) ?_
  refine lv_istore_n (lv' := [(2, .int 0), (0, .ref (ma 0)), (1, .int 0)]) hx hb dX13_weddings_1 rfl hl (by decide) rfl (fun ls hl => ?_)
  refine lv_iconst (v := 0) hx hb dX13_weddings_2 (by decide) ?_
  refine lv_istore_n (lv' := [(3, .int 0), (2, .int 0), (0, .ref (ma 0)), (1, .int 0)]) hx hb dX13_weddings_3 rfl hl (by decide) rfl (fun ls hl => ?_)
  refine lv_iload_n hx hb dX13_weddings_4 rfl (lv_at hl 0 rfl) ?_
  refine lv_aload_n hx hb dX13_weddings_5 rfl (lv_at hl 2 rfl) ?_
  refine p_ji (wr := []) (va_runV (As := []) (rest := [.int 0]) ⟨hx, hb, hml, hown, hts⟩ (c_m_rivers l D k _ ma i0 i2 i3 i7 i8 i13 i16 i17 i23 i25 i27 i28 i29 i30 i36 i37 i41 fl hl0) (cwV 0 hts pg_m_weddings_0_0 rfl rfl rfl (by decide +kernel) ⟨Nat.le_of_ble_eq_true rfl, Nat.le_of_ble_eq_true rfl⟩) (pV hK hN hP hD [0, 1] rfl (by decide) rfl 0 rfl rfl) rfl rfl hl.1 rfl (lv_room (Nat.le_of_ble_eq_true rfl)) dX13_weddings_6 ⟨by decide, by decide⟩) hP hD hS hA [0, 1] [] rfl rfl (by decide) (by decide) (fun rx3 ux1 H locs wx2 hP hD hS => ?_)
  have hx4 : rx3 = 0 := wx2
  subst hx4
  have hP : va_P D vwCl [((ma 0), .inr (10, [.int i0, .ref (ma 1), .int i2, .int i3, .ref (ma 4), .ref (ma 5), .ref (ma 6), .int i7, .int i8, .ref (ma 9), .ref (ma 10), .ref (ma 11), .ref (ma 12), .int i13, .ref (ma 14), .ref (ma 15), .int i16, .int i17, .ref (ma 18), .ref (ma 19), .ref (ma 20), .ref (ma 21), .ref (ma 22), .int i23, .ref (ma 24), .int i25, .ref (ma 26), .int i27, .int i28, .int i29, .int i30, .ref (ma 31), .ref (ma 32), .ref (ma 33), .ref (ma 34), .ref (ma 35), .int i36, .int i37, .ref (ma 38), .ref (ma 39), .ref (ma 40), .long i41])), ((ma 10), .inl (k 1, 220, .inl fl))] H := hP
  have hD : va_D A [((ma 0), .inr (10, [.int i0, .ref (ma 1), .int i2, .int i3, .ref (ma 4), .ref (ma 5), .ref (ma 6), .int i7, .int i8, .ref (ma 9), .ref (ma 10), .ref (ma 11), .ref (ma 12), .int i13, .ref (ma 14), .ref (ma 15), .int i16, .int i17, .ref (ma 18), .ref (ma 19), .ref (ma 20), .ref (ma 21), .ref (ma 22), .int i23, .ref (ma 24), .int i25, .ref (ma 26), .int i27, .int i28, .int i29, .int i30, .ref (ma 31), .ref (ma 32), .ref (ma 33), .ref (ma 34), .ref (ma 35), .int i36, .int i37, .ref (ma 38), .ref (ma 39), .ref (ma 40), .long i41])), ((ma 10), .inl (k 1, 220, .inl fl))] := hD
  refine lv_icmp_ge (tgt := 35) hx hb dX13_weddings_9 (by decide) (fun cx5 => ?_) (fun h9 => absurd (by decide) h9)
  refine lv_iload_n hx hb dX13_weddings_35 rfl (lv_at hl 1 rfl) ?_
  exact hret _ _ _ _ _ _ 0 () (by decide) (by decide) dX13_weddings_36 rfl rfl (hP.sub [0, 1] rfl) (hD.sub [0, 1] (by decide) rfl) hS
def pw_m_weddings_t : List Cond := .code yX13_weddings cX13_weddings 4 (some .int) :: ([.code yX13_rivers cX13_rivers 1 (some .int), .fieldLink RX13 99 "RiverVowsModel" "lands" "[I", .methodLink RX13 296 yX13_rivers, .instanceMethod yX13_rivers, .selects RX13 yX13_rivers yX13_rivers, .initialized RX13] ++ wsX130)
set_option maxRecDepth 20000 in
theorem pg_m_weddings_t_0 : GoodIn pw_m_weddings_t (wsV RX13 296 RX13 yX13_rivers pw_m_rivers) := goodIn_sub (by decide +kernel) (by decide +kernel)
set_option maxHeartbeats 4000000 in
set_option maxRecDepth 100000 in
theorem c_m_weddings_t (l : Launch) (D : va_G) (k : Nat → ClassId) (sz : Nat) (ma : Nat → Nat) (i0 : Int32) (i2 : Int32) (i3 : Int32) (i7 : Int32) (i8 : Int32) (i13 : Int32) (i16 : Int32) (i17 : Int32) (i23 : Int32) (i25 : Int32) (i27 : Int32) (i28 : Int32) (i29 : Int32) (i30 : Int32) (i36 : Int32) (i37 : Int32) (i41 : Int64) (fl : Nat → Int32) (hl0 : fl 0 = 0) : pMi l yX13_weddings pw_m_weddings_t ({ frames := 1, cells := 0, slots := 0, locals := 20 }) D k [.ref (ma 0), .int 1260] [((ma 0), .inr (10, [.int i0, .ref (ma 1), .int i2, .int i3, .ref (ma 4), .ref (ma 5), .ref (ma 6), .int i7, .int i8, .ref (ma 9), .ref (ma 10), .ref (ma 11), .ref (ma 12), .int i13, .ref (ma 14), .ref (ma 15), .int i16, .int i17, .ref (ma 18), .ref (ma 19), .ref (ma 20), .ref (ma 21), .ref (ma 22), .int i23, .ref (ma 24), .int i25, .ref (ma 26), .int i27, .int i28, .int i29, .int i30, .ref (ma 31), .ref (ma 32), .ref (ma 33), .ref (ma 34), .ref (ma 35), .int i36, .int i37, .ref (ma 38), .ref (ma 39), .ref (ma 40), .long i41])), ((ma 10), .inl (k 1, 220, .inl fl))] sz (S := Unit) (fun r9 u => r9 = 0) (fun u => [((ma 0), .inr (10, [.int i0, .ref (ma 1), .int i2, .int i3, .ref (ma 4), .ref (ma 5), .ref (ma 6), .int i7, .int i8, .ref (ma 9), .ref (ma 10), .ref (ma 11), .ref (ma 12), .int i13, .ref (ma 14), .ref (ma 15), .int i16, .int i17, .ref (ma 18), .ref (ma 19), .ref (ma 20), .ref (ma 21), .ref (ma 22), .int i23, .ref (ma 24), .int i25, .ref (ma 26), .int i27, .int i28, .int i29, .int i30, .ref (ma 31), .ref (ma 32), .ref (ma 33), .ref (ma 34), .ref (ma 35), .int i36, .int i37, .ref (ma 38), .ref (ma 39), .ref (ma 40), .long i41])), ((ma 10), .inl (k 1, 220, .inl fl))]) 0 0 := by
  refine p_ofi (cc := cX13_weddings) (maxL := 4) (rt := .int) (by decide) rfl (Nat.le_of_ble_eq_true rfl) ?_
  intro p e s m below meth c hx hb hml hown hts hK hN A hA hP hD hS Q hret ls hl
  have hl : lv_has ls 4 [(0, .ref (ma 0)), (1, .int 1260)] := hl
  refine lv_iconst (v := 0) hx hb dX13_weddings_0 (by decide) ?_
  refine lv_istore_n (lv' := [(2, .int 0), (0, .ref (ma 0)), (1, .int 1260)]) hx hb dX13_weddings_1 rfl hl (by decide) rfl (fun ls hl => ?_)
  refine lv_iconst (v := 0) hx hb dX13_weddings_2 (by decide) ?_
  refine lv_istore_n (lv' := [(3, .int 0), (2, .int 0), (0, .ref (ma 0)), (1, .int 1260)]) hx hb dX13_weddings_3 rfl hl (by decide) rfl (fun ls hl => ?_)
  refine lv_iload_n hx hb dX13_weddings_4 rfl (lv_at hl 0 rfl) ?_
  refine lv_aload_n hx hb dX13_weddings_5 rfl (lv_at hl 2 rfl) ?_
  refine p_ji (wr := []) (va_runV (As := []) (rest := [.int 0]) ⟨hx, hb, hml, hown, hts⟩ (c_m_rivers l D k _ ma i0 i2 i3 i7 i8 i13 i16 i17 i23 i25 i27 i28 i29 i30 i36 i37 i41 fl hl0) (cwV 0 hts pg_m_weddings_t_0 rfl rfl rfl (by decide +kernel) ⟨Nat.le_of_ble_eq_true rfl, Nat.le_of_ble_eq_true rfl⟩) (pV hK hN hP hD [0, 1] rfl (by decide) rfl 0 rfl rfl) rfl rfl hl.1 rfl (lv_room (Nat.le_of_ble_eq_true rfl)) dX13_weddings_6 ⟨by decide, by decide⟩) hP hD hS hA [0, 1] [] rfl rfl (by decide) (by decide) (fun rx3 ux1 H locs wx2 hP hD hS => ?_)
  have hx4 : rx3 = 0 := wx2
  subst hx4
  have hP : va_P D vwCl [((ma 0), .inr (10, [.int i0, .ref (ma 1), .int i2, .int i3, .ref (ma 4), .ref (ma 5), .ref (ma 6), .int i7, .int i8, .ref (ma 9), .ref (ma 10), .ref (ma 11), .ref (ma 12), .int i13, .ref (ma 14), .ref (ma 15), .int i16, .int i17, .ref (ma 18), .ref (ma 19), .ref (ma 20), .ref (ma 21), .ref (ma 22), .int i23, .ref (ma 24), .int i25, .ref (ma 26), .int i27, .int i28, .int i29, .int i30, .ref (ma 31), .ref (ma 32), .ref (ma 33), .ref (ma 34), .ref (ma 35), .int i36, .int i37, .ref (ma 38), .ref (ma 39), .ref (ma 40), .long i41])), ((ma 10), .inl (k 1, 220, .inl fl))] H := hP
  have hD : va_D A [((ma 0), .inr (10, [.int i0, .ref (ma 1), .int i2, .int i3, .ref (ma 4), .ref (ma 5), .ref (ma 6), .int i7, .int i8, .ref (ma 9), .ref (ma 10), .ref (ma 11), .ref (ma 12), .int i13, .ref (ma 14), .ref (ma 15), .int i16, .int i17, .ref (ma 18), .ref (ma 19), .ref (ma 20), .ref (ma 21), .ref (ma 22), .int i23, .ref (ma 24), .int i25, .ref (ma 26), .int i27, .int i28, .int i29, .int i30, .ref (ma 31), .ref (ma 32), .ref (ma 33), .ref (ma 34), .ref (ma 35), .int i36, .int i37, .ref (ma 38), .ref (ma 39), .ref (ma 40), .long i41])), ((ma 10), .inl (k 1, 220, .inl fl))] := hD
  refine lv_icmp_ge (tgt := 35) hx hb dX13_weddings_9 (by decide) (fun cx5 => ?_) (fun h9 => absurd (by decide) h9)
  refine lv_iload_n hx hb dX13_weddings_35 rfl (lv_at hl 1 rfl) ?_
  exact hret _ _ _ _ _ _ 0 () (by decide) (by decide) dX13_weddings_36 rfl rfl (hP.sub [0, 1] rfl) (hD.sub [0, 1] (by decide) rfl) hS
def pw_m_areServed : List Cond := .code yX13_areServed cX13_areServed 5 (some .boolean) :: ([.code yX13_rivers cX13_rivers 1 (some .int), .fieldLink RX13 99 "RiverVowsModel" "lands" "[I", .methodLink RX13 296 yX13_rivers, .instanceMethod yX13_rivers, .selects RX13 yX13_rivers yX13_rivers, .initialized RX13] ++ wsX130)
set_option maxRecDepth 20000 in
theorem pg_m_areServed_0 : GoodIn pw_m_areServed (wsV RX13 296 RX13 yX13_rivers pw_m_rivers) := goodIn_sub (by decide +kernel) (by decide +kernel)
set_option maxHeartbeats 4000000 in
set_option maxRecDepth 100000 in
theorem c_m_areServed (l : Launch) (D : va_G) (k : Nat → ClassId) (sz : Nat) (ma : Nat → Nat) (i0 : Int32) (i2 : Int32) (i3 : Int32) (i7 : Int32) (i8 : Int32) (i13 : Int32) (i16 : Int32) (i17 : Int32) (i23 : Int32) (i25 : Int32) (i27 : Int32) (i28 : Int32) (i29 : Int32) (i30 : Int32) (i36 : Int32) (i37 : Int32) (i41 : Int64) (fl : Nat → Int32) (s0 : Int32) (hl0 : fl 0 = 0) : pMi l yX13_areServed pw_m_areServed ({ frames := 1, cells := 0, slots := 0, locals := 20 }) D k [.ref (ma 0), .int 1260, .int s0] [((ma 0), .inr (10, [.int i0, .ref (ma 1), .int i2, .int i3, .ref (ma 4), .ref (ma 5), .ref (ma 6), .int i7, .int i8, .ref (ma 9), .ref (ma 10), .ref (ma 11), .ref (ma 12), .int i13, .ref (ma 14), .ref (ma 15), .int i16, .int i17, .ref (ma 18), .ref (ma 19), .ref (ma 20), .ref (ma 21), .ref (ma 22), .int i23, .ref (ma 24), .int i25, .ref (ma 26), .int i27, .int i28, .int i29, .int i30, .ref (ma 31), .ref (ma 32), .ref (ma 33), .ref (ma 34), .ref (ma 35), .int i36, .int i37, .ref (ma 38), .ref (ma 39), .ref (ma 40), .long i41])), ((ma 10), .inl (k 1, 220, .inl fl))] sz (S := Unit) (fun r9 u => r9 = 1) (fun u => [((ma 0), .inr (10, [.int i0, .ref (ma 1), .int i2, .int i3, .ref (ma 4), .ref (ma 5), .ref (ma 6), .int i7, .int i8, .ref (ma 9), .ref (ma 10), .ref (ma 11), .ref (ma 12), .int i13, .ref (ma 14), .ref (ma 15), .int i16, .int i17, .ref (ma 18), .ref (ma 19), .ref (ma 20), .ref (ma 21), .ref (ma 22), .int i23, .ref (ma 24), .int i25, .ref (ma 26), .int i27, .int i28, .int i29, .int i30, .ref (ma 31), .ref (ma 32), .ref (ma 33), .ref (ma 34), .ref (ma 35), .int i36, .int i37, .ref (ma 38), .ref (ma 39), .ref (ma 40), .long i41])), ((ma 10), .inl (k 1, 220, .inl fl))]) 0 0 := by
  refine p_ofi (cc := cX13_areServed) (maxL := 5) (rt := .boolean) (by decide) rfl (Nat.le_of_ble_eq_true rfl) ?_
  intro p e s m below meth c hx hb hml hown hts hK hN A hA hP hD hS Q hret ls hl
  have hl : lv_has ls 5 [(0, .ref (ma 0)), (1, .int 1260), (2, .int s0)] := hl
  refine lv_iconst (v := 1) hx hb dX13_areServed_0 (by decide) ?_
  refine lv_istore_n (lv' := [(3, .int 1), (0, .ref (ma 0)), (1, .int 1260), (2, .int s0)]) hx hb dX13_areServed_1 rfl hl (by decide) rfl (fun ls hl => ?_)
  refine lv_iconst (v := 0) hx hb dX13_areServed_2 (by decide) ?_
  refine lv_istore (lv' := [(4, .int 0), (3, .int 1), (0, .ref (ma 0)), (1, .int 1260), (2, .int s0)]) hx hb dX13_areServed_3 hl (by decide) rfl (fun ls hl => ?_)
  refine lv_iload hx hb dX13_areServed_5 (lv_at hl 0 rfl) ?_
  refine lv_aload_n hx hb dX13_areServed_7 rfl (lv_at hl 2 rfl) ?_
  refine p_ji (wr := []) (va_runV (As := []) (rest := [.int 0]) ⟨hx, hb, hml, hown, hts⟩ (c_m_rivers l D k _ ma i0 i2 i3 i7 i8 i13 i16 i17 i23 i25 i27 i28 i29 i30 i36 i37 i41 fl hl0) (cwV 0 hts pg_m_areServed_0 rfl rfl rfl (by decide +kernel) ⟨Nat.le_of_ble_eq_true rfl, Nat.le_of_ble_eq_true rfl⟩) (pV hK hN hP hD [0, 1] rfl (by decide) rfl 0 rfl rfl) rfl rfl hl.1 rfl (lv_room (Nat.le_of_ble_eq_true rfl)) dX13_areServed_8 ⟨by decide, by decide⟩) hP hD hS hA [0, 1] [] rfl rfl (by decide) (by decide) (fun rx3 ux1 H locs wx2 hP hD hS => ?_)
  have hx4 : rx3 = 0 := wx2
  subst hx4
  have hP : va_P D vwCl [((ma 0), .inr (10, [.int i0, .ref (ma 1), .int i2, .int i3, .ref (ma 4), .ref (ma 5), .ref (ma 6), .int i7, .int i8, .ref (ma 9), .ref (ma 10), .ref (ma 11), .ref (ma 12), .int i13, .ref (ma 14), .ref (ma 15), .int i16, .int i17, .ref (ma 18), .ref (ma 19), .ref (ma 20), .ref (ma 21), .ref (ma 22), .int i23, .ref (ma 24), .int i25, .ref (ma 26), .int i27, .int i28, .int i29, .int i30, .ref (ma 31), .ref (ma 32), .ref (ma 33), .ref (ma 34), .ref (ma 35), .int i36, .int i37, .ref (ma 38), .ref (ma 39), .ref (ma 40), .long i41])), ((ma 10), .inl (k 1, 220, .inl fl))] H := hP
  have hD : va_D A [((ma 0), .inr (10, [.int i0, .ref (ma 1), .int i2, .int i3, .ref (ma 4), .ref (ma 5), .ref (ma 6), .int i7, .int i8, .ref (ma 9), .ref (ma 10), .ref (ma 11), .ref (ma 12), .int i13, .ref (ma 14), .ref (ma 15), .int i16, .int i17, .ref (ma 18), .ref (ma 19), .ref (ma 20), .ref (ma 21), .ref (ma 22), .int i23, .ref (ma 24), .int i25, .ref (ma 26), .int i27, .int i28, .int i29, .int i30, .ref (ma 31), .ref (ma 32), .ref (ma 33), .ref (ma 34), .ref (ma 35), .int i36, .int i37, .ref (ma 38), .ref (ma 39), .ref (ma 40), .long i41])), ((ma 10), .inl (k 1, 220, .inl fl))] := hD
  refine lv_icmp_ge (tgt := 52) hx hb dX13_areServed_11 (by decide) (fun cx5 => ?_) (fun h9 => absurd (by decide) h9)
  refine lv_iload_n hx hb dX13_areServed_52 rfl (lv_at hl 1 rfl) ?_
  exact hret _ _ _ _ _ _ 1 () (by decide) (by decide) dX13_areServed_53 rfl rfl (hP.sub [0, 1] rfl) (hD.sub [0, 1] (by decide) rfl) hS
def pw_m_isServedAlways : List Cond := .code yX13_isServedAlways cX13_isServedAlways 3 (some .boolean) :: ([.code yX13_areServed cX13_areServed 5 (some .boolean), .code yX13_rivers cX13_rivers 1 (some .int), .fieldLink RX13 99 "RiverVowsModel" "lands" "[I", .methodLink RX13 296 yX13_rivers, .instanceMethod yX13_rivers, .selects RX13 yX13_rivers yX13_rivers, .initialized RX13, .methodLink RX13 385 yX13_areServed, .instanceMethod yX13_areServed, .selects RX13 yX13_areServed yX13_areServed] ++ wsX130)
set_option maxRecDepth 20000 in
theorem pg_m_isServedAlways_0 : GoodIn pw_m_isServedAlways (wsV RX13 385 RX13 yX13_areServed pw_m_areServed) := goodIn_sub (by decide +kernel) (by decide +kernel)
set_option maxHeartbeats 4000000 in
set_option maxRecDepth 100000 in
theorem c_m_isServedAlways (l : Launch) (D : va_G) (k : Nat → ClassId) (sz : Nat) (ma : Nat → Nat) (i0 : Int32) (i2 : Int32) (i3 : Int32) (i7 : Int32) (i8 : Int32) (i13 : Int32) (i16 : Int32) (i17 : Int32) (i23 : Int32) (i25 : Int32) (i27 : Int32) (i28 : Int32) (i29 : Int32) (i30 : Int32) (i36 : Int32) (i37 : Int32) (i41 : Int64) (fl : Nat → Int32) (hl0 : fl 0 = 0) : pMi l yX13_isServedAlways pw_m_isServedAlways ({ frames := 2, cells := 0, slots := 0, locals := 44 }) D k [.ref (ma 0)] [((ma 0), .inr (10, [.int i0, .ref (ma 1), .int i2, .int i3, .ref (ma 4), .ref (ma 5), .ref (ma 6), .int i7, .int i8, .ref (ma 9), .ref (ma 10), .ref (ma 11), .ref (ma 12), .int i13, .ref (ma 14), .ref (ma 15), .int i16, .int i17, .ref (ma 18), .ref (ma 19), .ref (ma 20), .ref (ma 21), .ref (ma 22), .int i23, .ref (ma 24), .int i25, .ref (ma 26), .int i27, .int i28, .int i29, .int i30, .ref (ma 31), .ref (ma 32), .ref (ma 33), .ref (ma 34), .ref (ma 35), .int i36, .int i37, .ref (ma 38), .ref (ma 39), .ref (ma 40), .long i41])), ((ma 10), .inl (k 1, 220, .inl fl))] sz (S := Unit) (fun r9 u => r9 = 1) (fun u => [((ma 0), .inr (10, [.int i0, .ref (ma 1), .int i2, .int i3, .ref (ma 4), .ref (ma 5), .ref (ma 6), .int i7, .int i8, .ref (ma 9), .ref (ma 10), .ref (ma 11), .ref (ma 12), .int i13, .ref (ma 14), .ref (ma 15), .int i16, .int i17, .ref (ma 18), .ref (ma 19), .ref (ma 20), .ref (ma 21), .ref (ma 22), .int i23, .ref (ma 24), .int i25, .ref (ma 26), .int i27, .int i28, .int i29, .int i30, .ref (ma 31), .ref (ma 32), .ref (ma 33), .ref (ma 34), .ref (ma 35), .int i36, .int i37, .ref (ma 38), .ref (ma 39), .ref (ma 40), .long i41])), ((ma 10), .inl (k 1, 220, .inl fl))]) 0 0 := by
  refine p_ofi (cc := cX13_isServedAlways) (maxL := 3) (rt := .boolean) (by decide) rfl (Nat.le_of_ble_eq_true rfl) ?_
  intro p e s m below meth c hx hb hml hown hts hK hN A hA hP hD hS Q hret ls hl
  have hl : lv_has ls 3 [(0, .ref (ma 0))] := hl
  refine lv_iconst (v := 1) hx hb dX13_isServedAlways_0 (by decide) ?_
  refine lv_istore_n (lv' := [(1, .int 1), (0, .ref (ma 0))]) hx hb dX13_isServedAlways_1 rfl hl (by decide) rfl (fun ls hl => ?_)
  refine lv_iconst (v := 0) hx hb dX13_isServedAlways_2 (by decide) ?_
  refine lv_istore_n (lv' := [(2, .int 0), (1, .int 1), (0, .ref (ma 0))]) hx hb dX13_isServedAlways_3 rfl hl (by decide) rfl (fun ls hl => ?_)
  refine lv_iload_n hx hb dX13_isServedAlways_4 rfl (lv_at hl 0 rfl) ?_
  refine lv_iconst (v := 4) hx hb dX13_isServedAlways_5 (by decide) ?_
  refine lv_icmp_ge (tgt := 28) hx hb dX13_isServedAlways_6 (by decide) (fun h9 => absurd h9 (by decide)) (fun cx1 => ?_)
  refine lv_iload_n hx hb dX13_isServedAlways_9 rfl (lv_at hl 1 rfl) ?_
  refine lv_if_eq (tgt := 28) hx hb dX13_isServedAlways_10 (by decide) (fun h9 => absurd h9 (by decide)) (fun cx2 => ?_)
  refine lv_aload_n hx hb dX13_isServedAlways_13 rfl (lv_at hl 2 rfl) ?_
  refine lv_sipush (v := 1260) hx hb dX13_isServedAlways_14 (by decide) ?_
  refine lv_iload_n hx hb dX13_isServedAlways_17 rfl (lv_at hl 0 rfl) ?_
  refine p_ji (wr := []) (va_runV (As := [.int 1260, .int 0]) (rest := []) ⟨hx, hb, hml, hown, hts⟩ (c_m_areServed l D k _ ma i0 i2 i3 i7 i8 i13 i16 i17 i23 i25 i27 i28 i29 i30 i36 i37 i41 fl 0 hl0) (cwV 2 hts pg_m_isServedAlways_0 rfl rfl rfl (by decide +kernel) ⟨Nat.le_of_ble_eq_true rfl, Nat.le_of_ble_eq_true rfl⟩) (pV hK hN hP hD [0, 1] rfl (by decide) rfl 0 rfl rfl) rfl rfl hl.1 rfl (lv_room (Nat.le_of_ble_eq_true rfl)) dX13_isServedAlways_18 ⟨by decide, by decide⟩) hP hD hS hA [0, 1] [] rfl rfl (by decide) (by decide) (fun rx5 ux3 H locs wx4 hP hD hS => ?_)
  have hx6 : rx5 = 1 := wx4
  subst hx6
  have hP : va_P D vwCl [((ma 0), .inr (10, [.int i0, .ref (ma 1), .int i2, .int i3, .ref (ma 4), .ref (ma 5), .ref (ma 6), .int i7, .int i8, .ref (ma 9), .ref (ma 10), .ref (ma 11), .ref (ma 12), .int i13, .ref (ma 14), .ref (ma 15), .int i16, .int i17, .ref (ma 18), .ref (ma 19), .ref (ma 20), .ref (ma 21), .ref (ma 22), .int i23, .ref (ma 24), .int i25, .ref (ma 26), .int i27, .int i28, .int i29, .int i30, .ref (ma 31), .ref (ma 32), .ref (ma 33), .ref (ma 34), .ref (ma 35), .int i36, .int i37, .ref (ma 38), .ref (ma 39), .ref (ma 40), .long i41])), ((ma 10), .inl (k 1, 220, .inl fl))] H := hP
  have hD : va_D A [((ma 0), .inr (10, [.int i0, .ref (ma 1), .int i2, .int i3, .ref (ma 4), .ref (ma 5), .ref (ma 6), .int i7, .int i8, .ref (ma 9), .ref (ma 10), .ref (ma 11), .ref (ma 12), .int i13, .ref (ma 14), .ref (ma 15), .int i16, .int i17, .ref (ma 18), .ref (ma 19), .ref (ma 20), .ref (ma 21), .ref (ma 22), .int i23, .ref (ma 24), .int i25, .ref (ma 26), .int i27, .int i28, .int i29, .int i30, .ref (ma 31), .ref (ma 32), .ref (ma 33), .ref (ma 34), .ref (ma 35), .int i36, .int i37, .ref (ma 38), .ref (ma 39), .ref (ma 40), .long i41])), ((ma 10), .inl (k 1, 220, .inl fl))] := hD
  refine lv_istore_n (lv' := [(1, .int 1), (2, .int 0), (0, .ref (ma 0))]) hx hb dX13_isServedAlways_21 rfl hl (by decide) rfl (fun ls hl => ?_)
  refine lv_iinc (v := 1) (lv' := [(2, .int 1), (1, .int 1), (0, .ref (ma 0))]) hx hb dX13_isServedAlways_22 hl (k := 1) rfl (by decide) (by decide) rfl (fun ls hl => ?_)
  refine lv_goto (tgt := 4) hx hb dX13_isServedAlways_25 (by decide) ?_
  refine lv_iload_n hx hb dX13_isServedAlways_4 rfl (lv_at hl 0 rfl) ?_
  refine lv_iconst (v := 4) hx hb dX13_isServedAlways_5 (by decide) ?_
  refine lv_icmp_ge (tgt := 28) hx hb dX13_isServedAlways_6 (by decide) (fun h9 => absurd h9 (by decide)) (fun cx7 => ?_)
  refine lv_iload_n hx hb dX13_isServedAlways_9 rfl (lv_at hl 1 rfl) ?_
  refine lv_if_eq (tgt := 28) hx hb dX13_isServedAlways_10 (by decide) (fun h9 => absurd h9 (by decide)) (fun cx8 => ?_)
  refine lv_aload_n hx hb dX13_isServedAlways_13 rfl (lv_at hl 2 rfl) ?_
  refine lv_sipush (v := 1260) hx hb dX13_isServedAlways_14 (by decide) ?_
  refine lv_iload_n hx hb dX13_isServedAlways_17 rfl (lv_at hl 0 rfl) ?_
  refine p_ji (wr := []) (va_runV (As := [.int 1260, .int 1]) (rest := []) ⟨hx, hb, hml, hown, hts⟩ (c_m_areServed l D k _ ma i0 i2 i3 i7 i8 i13 i16 i17 i23 i25 i27 i28 i29 i30 i36 i37 i41 fl 1 hl0) (cwV 2 hts pg_m_isServedAlways_0 rfl rfl rfl (by decide +kernel) ⟨Nat.le_of_ble_eq_true rfl, Nat.le_of_ble_eq_true rfl⟩) (pV hK hN hP hD [0, 1] rfl (by decide) rfl 0 rfl rfl) rfl rfl hl.1 rfl (lv_room (Nat.le_of_ble_eq_true rfl)) dX13_isServedAlways_18 ⟨by decide, by decide⟩) hP hD hS hA [0, 1] [] rfl rfl (by decide) (by decide) (fun rx11 ux9 H locs wx10 hP hD hS => ?_)
  have hx12 : rx11 = 1 := wx10
  subst hx12
  have hP : va_P D vwCl [((ma 0), .inr (10, [.int i0, .ref (ma 1), .int i2, .int i3, .ref (ma 4), .ref (ma 5), .ref (ma 6), .int i7, .int i8, .ref (ma 9), .ref (ma 10), .ref (ma 11), .ref (ma 12), .int i13, .ref (ma 14), .ref (ma 15), .int i16, .int i17, .ref (ma 18), .ref (ma 19), .ref (ma 20), .ref (ma 21), .ref (ma 22), .int i23, .ref (ma 24), .int i25, .ref (ma 26), .int i27, .int i28, .int i29, .int i30, .ref (ma 31), .ref (ma 32), .ref (ma 33), .ref (ma 34), .ref (ma 35), .int i36, .int i37, .ref (ma 38), .ref (ma 39), .ref (ma 40), .long i41])), ((ma 10), .inl (k 1, 220, .inl fl))] H := hP
  have hD : va_D A [((ma 0), .inr (10, [.int i0, .ref (ma 1), .int i2, .int i3, .ref (ma 4), .ref (ma 5), .ref (ma 6), .int i7, .int i8, .ref (ma 9), .ref (ma 10), .ref (ma 11), .ref (ma 12), .int i13, .ref (ma 14), .ref (ma 15), .int i16, .int i17, .ref (ma 18), .ref (ma 19), .ref (ma 20), .ref (ma 21), .ref (ma 22), .int i23, .ref (ma 24), .int i25, .ref (ma 26), .int i27, .int i28, .int i29, .int i30, .ref (ma 31), .ref (ma 32), .ref (ma 33), .ref (ma 34), .ref (ma 35), .int i36, .int i37, .ref (ma 38), .ref (ma 39), .ref (ma 40), .long i41])), ((ma 10), .inl (k 1, 220, .inl fl))] := hD
  refine lv_istore_n (lv' := [(1, .int 1), (2, .int 1), (0, .ref (ma 0))]) hx hb dX13_isServedAlways_21 rfl hl (by decide) rfl (fun ls hl => ?_)
  refine lv_iinc (v := 2) (lv' := [(2, .int 2), (1, .int 1), (0, .ref (ma 0))]) hx hb dX13_isServedAlways_22 hl (k := 1) rfl (by decide) (by decide) rfl (fun ls hl => ?_)
  refine lv_goto (tgt := 4) hx hb dX13_isServedAlways_25 (by decide) ?_
  refine lv_iload_n hx hb dX13_isServedAlways_4 rfl (lv_at hl 0 rfl) ?_
  refine lv_iconst (v := 4) hx hb dX13_isServedAlways_5 (by decide) ?_
  refine lv_icmp_ge (tgt := 28) hx hb dX13_isServedAlways_6 (by decide) (fun h9 => absurd h9 (by decide)) (fun cx13 => ?_)
  refine lv_iload_n hx hb dX13_isServedAlways_9 rfl (lv_at hl 1 rfl) ?_
  refine lv_if_eq (tgt := 28) hx hb dX13_isServedAlways_10 (by decide) (fun h9 => absurd h9 (by decide)) (fun cx14 => ?_)
  refine lv_aload_n hx hb dX13_isServedAlways_13 rfl (lv_at hl 2 rfl) ?_
  refine lv_sipush (v := 1260) hx hb dX13_isServedAlways_14 (by decide) ?_
  refine lv_iload_n hx hb dX13_isServedAlways_17 rfl (lv_at hl 0 rfl) ?_
  refine p_ji (wr := []) (va_runV (As := [.int 1260, .int 2]) (rest := []) ⟨hx, hb, hml, hown, hts⟩ (c_m_areServed l D k _ ma i0 i2 i3 i7 i8 i13 i16 i17 i23 i25 i27 i28 i29 i30 i36 i37 i41 fl 2 hl0) (cwV 2 hts pg_m_isServedAlways_0 rfl rfl rfl (by decide +kernel) ⟨Nat.le_of_ble_eq_true rfl, Nat.le_of_ble_eq_true rfl⟩) (pV hK hN hP hD [0, 1] rfl (by decide) rfl 0 rfl rfl) rfl rfl hl.1 rfl (lv_room (Nat.le_of_ble_eq_true rfl)) dX13_isServedAlways_18 ⟨by decide, by decide⟩) hP hD hS hA [0, 1] [] rfl rfl (by decide) (by decide) (fun rx17 ux15 H locs wx16 hP hD hS => ?_)
  have hx18 : rx17 = 1 := wx16
  subst hx18
  have hP : va_P D vwCl [((ma 0), .inr (10, [.int i0, .ref (ma 1), .int i2, .int i3, .ref (ma 4), .ref (ma 5), .ref (ma 6), .int i7, .int i8, .ref (ma 9), .ref (ma 10), .ref (ma 11), .ref (ma 12), .int i13, .ref (ma 14), .ref (ma 15), .int i16, .int i17, .ref (ma 18), .ref (ma 19), .ref (ma 20), .ref (ma 21), .ref (ma 22), .int i23, .ref (ma 24), .int i25, .ref (ma 26), .int i27, .int i28, .int i29, .int i30, .ref (ma 31), .ref (ma 32), .ref (ma 33), .ref (ma 34), .ref (ma 35), .int i36, .int i37, .ref (ma 38), .ref (ma 39), .ref (ma 40), .long i41])), ((ma 10), .inl (k 1, 220, .inl fl))] H := hP
  have hD : va_D A [((ma 0), .inr (10, [.int i0, .ref (ma 1), .int i2, .int i3, .ref (ma 4), .ref (ma 5), .ref (ma 6), .int i7, .int i8, .ref (ma 9), .ref (ma 10), .ref (ma 11), .ref (ma 12), .int i13, .ref (ma 14), .ref (ma 15), .int i16, .int i17, .ref (ma 18), .ref (ma 19), .ref (ma 20), .ref (ma 21), .ref (ma 22), .int i23, .ref (ma 24), .int i25, .ref (ma 26), .int i27, .int i28, .int i29, .int i30, .ref (ma 31), .ref (ma 32), .ref (ma 33), .ref (ma 34), .ref (ma 35), .int i36, .int i37, .ref (ma 38), .ref (ma 39), .ref (ma 40), .long i41])), ((ma 10), .inl (k 1, 220, .inl fl))] := hD
  refine lv_istore_n (lv' := [(1, .int 1), (2, .int 2), (0, .ref (ma 0))]) hx hb dX13_isServedAlways_21 rfl hl (by decide) rfl (fun ls hl => ?_)
  refine lv_iinc (v := 3) (lv' := [(2, .int 3), (1, .int 1), (0, .ref (ma 0))]) hx hb dX13_isServedAlways_22 hl (k := 1) rfl (by decide) (by decide) rfl (fun ls hl => ?_)
  refine lv_goto (tgt := 4) hx hb dX13_isServedAlways_25 (by decide) ?_
  refine lv_iload_n hx hb dX13_isServedAlways_4 rfl (lv_at hl 0 rfl) ?_
  refine lv_iconst (v := 4) hx hb dX13_isServedAlways_5 (by decide) ?_
  refine lv_icmp_ge (tgt := 28) hx hb dX13_isServedAlways_6 (by decide) (fun h9 => absurd h9 (by decide)) (fun cx19 => ?_)
  refine lv_iload_n hx hb dX13_isServedAlways_9 rfl (lv_at hl 1 rfl) ?_
  refine lv_if_eq (tgt := 28) hx hb dX13_isServedAlways_10 (by decide) (fun h9 => absurd h9 (by decide)) (fun cx20 => ?_)
  refine lv_aload_n hx hb dX13_isServedAlways_13 rfl (lv_at hl 2 rfl) ?_
  refine lv_sipush (v := 1260) hx hb dX13_isServedAlways_14 (by decide) ?_
  refine lv_iload_n hx hb dX13_isServedAlways_17 rfl (lv_at hl 0 rfl) ?_
  refine p_ji (wr := []) (va_runV (As := [.int 1260, .int 3]) (rest := []) ⟨hx, hb, hml, hown, hts⟩ (c_m_areServed l D k _ ma i0 i2 i3 i7 i8 i13 i16 i17 i23 i25 i27 i28 i29 i30 i36 i37 i41 fl 3 hl0) (cwV 2 hts pg_m_isServedAlways_0 rfl rfl rfl (by decide +kernel) ⟨Nat.le_of_ble_eq_true rfl, Nat.le_of_ble_eq_true rfl⟩) (pV hK hN hP hD [0, 1] rfl (by decide) rfl 0 rfl rfl) rfl rfl hl.1 rfl (lv_room (Nat.le_of_ble_eq_true rfl)) dX13_isServedAlways_18 ⟨by decide, by decide⟩) hP hD hS hA [0, 1] [] rfl rfl (by decide) (by decide) (fun rx23 ux21 H locs wx22 hP hD hS => ?_)
  have hx24 : rx23 = 1 := wx22
  subst hx24
  have hP : va_P D vwCl [((ma 0), .inr (10, [.int i0, .ref (ma 1), .int i2, .int i3, .ref (ma 4), .ref (ma 5), .ref (ma 6), .int i7, .int i8, .ref (ma 9), .ref (ma 10), .ref (ma 11), .ref (ma 12), .int i13, .ref (ma 14), .ref (ma 15), .int i16, .int i17, .ref (ma 18), .ref (ma 19), .ref (ma 20), .ref (ma 21), .ref (ma 22), .int i23, .ref (ma 24), .int i25, .ref (ma 26), .int i27, .int i28, .int i29, .int i30, .ref (ma 31), .ref (ma 32), .ref (ma 33), .ref (ma 34), .ref (ma 35), .int i36, .int i37, .ref (ma 38), .ref (ma 39), .ref (ma 40), .long i41])), ((ma 10), .inl (k 1, 220, .inl fl))] H := hP
  have hD : va_D A [((ma 0), .inr (10, [.int i0, .ref (ma 1), .int i2, .int i3, .ref (ma 4), .ref (ma 5), .ref (ma 6), .int i7, .int i8, .ref (ma 9), .ref (ma 10), .ref (ma 11), .ref (ma 12), .int i13, .ref (ma 14), .ref (ma 15), .int i16, .int i17, .ref (ma 18), .ref (ma 19), .ref (ma 20), .ref (ma 21), .ref (ma 22), .int i23, .ref (ma 24), .int i25, .ref (ma 26), .int i27, .int i28, .int i29, .int i30, .ref (ma 31), .ref (ma 32), .ref (ma 33), .ref (ma 34), .ref (ma 35), .int i36, .int i37, .ref (ma 38), .ref (ma 39), .ref (ma 40), .long i41])), ((ma 10), .inl (k 1, 220, .inl fl))] := hD
  refine lv_istore_n (lv' := [(1, .int 1), (2, .int 3), (0, .ref (ma 0))]) hx hb dX13_isServedAlways_21 rfl hl (by decide) rfl (fun ls hl => ?_)
  refine lv_iinc (v := 4) (lv' := [(2, .int 4), (1, .int 1), (0, .ref (ma 0))]) hx hb dX13_isServedAlways_22 hl (k := 1) rfl (by decide) (by decide) rfl (fun ls hl => ?_)
  refine lv_goto (tgt := 4) hx hb dX13_isServedAlways_25 (by decide) ?_
  refine lv_iload_n hx hb dX13_isServedAlways_4 rfl (lv_at hl 0 rfl) ?_
  refine lv_iconst (v := 4) hx hb dX13_isServedAlways_5 (by decide) ?_
  refine lv_icmp_ge (tgt := 28) hx hb dX13_isServedAlways_6 (by decide) (fun cx25 => ?_) (fun h9 => absurd (by decide) h9)
  refine lv_iload_n hx hb dX13_isServedAlways_28 rfl (lv_at hl 1 rfl) ?_
  exact hret _ _ _ _ _ _ 1 () (by decide) (by decide) dX13_isServedAlways_29 rfl rfl (hP.sub [0, 1] rfl) (hD.sub [0, 1] (by decide) rfl) hS
def pw_m_digsIn : List Cond := .code yX13_digsIn cX13_digsIn 4 (some .int) :: ([.code yX13_rivers cX13_rivers 1 (some .int), .fieldLink RX13 99 "RiverVowsModel" "lands" "[I", .methodLink RX13 296 yX13_rivers, .instanceMethod yX13_rivers, .selects RX13 yX13_rivers yX13_rivers, .initialized RX13] ++ wsX130)
set_option maxRecDepth 20000 in
theorem pg_m_digsIn_0 : GoodIn pw_m_digsIn (wsV RX13 296 RX13 yX13_rivers pw_m_rivers) := goodIn_sub (by decide +kernel) (by decide +kernel)
set_option maxHeartbeats 4000000 in
set_option maxRecDepth 100000 in
theorem c_m_digsIn (l : Launch) (D : va_G) (k : Nat → ClassId) (sz : Nat) (ma : Nat → Nat) (i0 : Int32) (i2 : Int32) (i3 : Int32) (i7 : Int32) (i8 : Int32) (i13 : Int32) (i16 : Int32) (i17 : Int32) (i23 : Int32) (i25 : Int32) (i27 : Int32) (i28 : Int32) (i29 : Int32) (i30 : Int32) (i36 : Int32) (i37 : Int32) (i41 : Int64) (fl : Nat → Int32) (hl0 : fl 0 = 0) : pMi l yX13_digsIn pw_m_digsIn ({ frames := 1, cells := 0, slots := 0, locals := 20 }) D k [.ref (ma 0), .int 1260] [((ma 0), .inr (10, [.int i0, .ref (ma 1), .int i2, .int i3, .ref (ma 4), .ref (ma 5), .ref (ma 6), .int i7, .int i8, .ref (ma 9), .ref (ma 10), .ref (ma 11), .ref (ma 12), .int i13, .ref (ma 14), .ref (ma 15), .int i16, .int i17, .ref (ma 18), .ref (ma 19), .ref (ma 20), .ref (ma 21), .ref (ma 22), .int i23, .ref (ma 24), .int i25, .ref (ma 26), .int i27, .int i28, .int i29, .int i30, .ref (ma 31), .ref (ma 32), .ref (ma 33), .ref (ma 34), .ref (ma 35), .int i36, .int i37, .ref (ma 38), .ref (ma 39), .ref (ma 40), .long i41])), ((ma 10), .inl (k 1, 220, .inl fl))] sz (S := Unit) (fun r9 u => r9 = 0) (fun u => [((ma 0), .inr (10, [.int i0, .ref (ma 1), .int i2, .int i3, .ref (ma 4), .ref (ma 5), .ref (ma 6), .int i7, .int i8, .ref (ma 9), .ref (ma 10), .ref (ma 11), .ref (ma 12), .int i13, .ref (ma 14), .ref (ma 15), .int i16, .int i17, .ref (ma 18), .ref (ma 19), .ref (ma 20), .ref (ma 21), .ref (ma 22), .int i23, .ref (ma 24), .int i25, .ref (ma 26), .int i27, .int i28, .int i29, .int i30, .ref (ma 31), .ref (ma 32), .ref (ma 33), .ref (ma 34), .ref (ma 35), .int i36, .int i37, .ref (ma 38), .ref (ma 39), .ref (ma 40), .long i41])), ((ma 10), .inl (k 1, 220, .inl fl))]) 0 0 := by
  refine p_ofi (cc := cX13_digsIn) (maxL := 4) (rt := .int) (by decide) rfl (Nat.le_of_ble_eq_true rfl) ?_
  intro p e s m below meth c hx hb hml hown hts hK hN A hA hP hD hS Q hret ls hl
  have hl : lv_has ls 4 [(0, .ref (ma 0)), (1, .int 1260)] := hl
  refine lv_iconst (v := 0) hx hb dX13_digsIn_0 (by decide) ?_
  refine lv_istore_n (lv' := [(2, .int 0), (0, .ref (ma 0)), (1, .int 1260)]) hx hb dX13_digsIn_1 rfl hl (by decide) rfl (fun ls hl => ?_)
  refine lv_iconst (v := 0) hx hb dX13_digsIn_2 (by decide) ?_
  refine lv_istore_n (lv' := [(3, .int 0), (2, .int 0), (0, .ref (ma 0)), (1, .int 1260)]) hx hb dX13_digsIn_3 rfl hl (by decide) rfl (fun ls hl => ?_)
  refine lv_iload_n hx hb dX13_digsIn_4 rfl (lv_at hl 0 rfl) ?_
  refine lv_aload_n hx hb dX13_digsIn_5 rfl (lv_at hl 2 rfl) ?_
  refine p_ji (wr := []) (va_runV (As := []) (rest := [.int 0]) ⟨hx, hb, hml, hown, hts⟩ (c_m_rivers l D k _ ma i0 i2 i3 i7 i8 i13 i16 i17 i23 i25 i27 i28 i29 i30 i36 i37 i41 fl hl0) (cwV 0 hts pg_m_digsIn_0 rfl rfl rfl (by decide +kernel) ⟨Nat.le_of_ble_eq_true rfl, Nat.le_of_ble_eq_true rfl⟩) (pV hK hN hP hD [0, 1] rfl (by decide) rfl 0 rfl rfl) rfl rfl hl.1 rfl (lv_room (Nat.le_of_ble_eq_true rfl)) dX13_digsIn_6 ⟨by decide, by decide⟩) hP hD hS hA [0, 1] [] rfl rfl (by decide) (by decide) (fun rx3 ux1 H locs wx2 hP hD hS => ?_)
  have hx4 : rx3 = 0 := wx2
  subst hx4
  have hP : va_P D vwCl [((ma 0), .inr (10, [.int i0, .ref (ma 1), .int i2, .int i3, .ref (ma 4), .ref (ma 5), .ref (ma 6), .int i7, .int i8, .ref (ma 9), .ref (ma 10), .ref (ma 11), .ref (ma 12), .int i13, .ref (ma 14), .ref (ma 15), .int i16, .int i17, .ref (ma 18), .ref (ma 19), .ref (ma 20), .ref (ma 21), .ref (ma 22), .int i23, .ref (ma 24), .int i25, .ref (ma 26), .int i27, .int i28, .int i29, .int i30, .ref (ma 31), .ref (ma 32), .ref (ma 33), .ref (ma 34), .ref (ma 35), .int i36, .int i37, .ref (ma 38), .ref (ma 39), .ref (ma 40), .long i41])), ((ma 10), .inl (k 1, 220, .inl fl))] H := hP
  have hD : va_D A [((ma 0), .inr (10, [.int i0, .ref (ma 1), .int i2, .int i3, .ref (ma 4), .ref (ma 5), .ref (ma 6), .int i7, .int i8, .ref (ma 9), .ref (ma 10), .ref (ma 11), .ref (ma 12), .int i13, .ref (ma 14), .ref (ma 15), .int i16, .int i17, .ref (ma 18), .ref (ma 19), .ref (ma 20), .ref (ma 21), .ref (ma 22), .int i23, .ref (ma 24), .int i25, .ref (ma 26), .int i27, .int i28, .int i29, .int i30, .ref (ma 31), .ref (ma 32), .ref (ma 33), .ref (ma 34), .ref (ma 35), .int i36, .int i37, .ref (ma 38), .ref (ma 39), .ref (ma 40), .long i41])), ((ma 10), .inl (k 1, 220, .inl fl))] := hD
  refine lv_icmp_ge (tgt := 45) hx hb dX13_digsIn_9 (by decide) (fun cx5 => ?_) (fun h9 => absurd (by decide) h9)
  refine lv_iload_n hx hb dX13_digsIn_45 rfl (lv_at hl 1 rfl) ?_
  exact hret _ _ _ _ _ _ 0 () (by decide) (by decide) dX13_digsIn_46 rfl rfl (hP.sub [0, 1] rfl) (hD.sub [0, 1] (by decide) rfl) hS
def pw_m_fitsTold : List Cond := .code yX13_fitsTold cX13_fitsTold 4 (some .boolean) :: ([.fieldLink RX13 126 "RiverVowsModel" "state" "[I"] ++ wsX130)
set_option maxHeartbeats 4000000 in
set_option maxRecDepth 100000 in
theorem c_m_fitsTold (l : Launch) (D : va_G) (k : Nat → ClassId) (sz : Nat) (ma : Nat → Nat) (i0 : Int32) (i2 : Int32) (i3 : Int32) (i7 : Int32) (i8 : Int32) (i13 : Int32) (i16 : Int32) (i17 : Int32) (i23 : Int32) (i25 : Int32) (i27 : Int32) (i28 : Int32) (i29 : Int32) (i30 : Int32) (i36 : Int32) (i37 : Int32) (i41 : Int64) (fs : Nat → Int32) (hs26 : fs 26 = 0) : pMi l yX13_fitsTold pw_m_fitsTold ({ frames := 0, cells := 0, slots := 0, locals := 0 }) D k [.ref (ma 0)] [((ma 0), .inr (10, [.int i0, .ref (ma 1), .int i2, .int i3, .ref (ma 4), .ref (ma 5), .ref (ma 6), .int i7, .int i8, .ref (ma 9), .ref (ma 10), .ref (ma 11), .ref (ma 12), .int i13, .ref (ma 14), .ref (ma 15), .int i16, .int i17, .ref (ma 18), .ref (ma 19), .ref (ma 20), .ref (ma 21), .ref (ma 22), .int i23, .ref (ma 24), .int i25, .ref (ma 26), .int i27, .int i28, .int i29, .int i30, .ref (ma 31), .ref (ma 32), .ref (ma 33), .ref (ma 34), .ref (ma 35), .int i36, .int i37, .ref (ma 38), .ref (ma 39), .ref (ma 40), .long i41])), ((ma 22), .inl (k 1, 1320, .inl fs))] sz (S := Unit) (fun r9 u => r9 = 1) (fun u => [((ma 0), .inr (10, [.int i0, .ref (ma 1), .int i2, .int i3, .ref (ma 4), .ref (ma 5), .ref (ma 6), .int i7, .int i8, .ref (ma 9), .ref (ma 10), .ref (ma 11), .ref (ma 12), .int i13, .ref (ma 14), .ref (ma 15), .int i16, .int i17, .ref (ma 18), .ref (ma 19), .ref (ma 20), .ref (ma 21), .ref (ma 22), .int i23, .ref (ma 24), .int i25, .ref (ma 26), .int i27, .int i28, .int i29, .int i30, .ref (ma 31), .ref (ma 32), .ref (ma 33), .ref (ma 34), .ref (ma 35), .int i36, .int i37, .ref (ma 38), .ref (ma 39), .ref (ma 40), .long i41])), ((ma 22), .inl (k 1, 1320, .inl fs))]) 0 0 := by
  refine p_ofi (cc := cX13_fitsTold) (maxL := 4) (rt := .boolean) (by decide) rfl (Nat.le_of_ble_eq_true rfl) ?_
  intro p e s m below meth c hx hb hml hown hts hK hN A hA hP hD hS Q hret ls hl
  have hl : lv_has ls 4 [(0, .ref (ma 0))] := hl
  have lf126 := hts (.fieldLink RX13 126 "RiverVowsModel" "state" "[I") (by decide +kernel)
  have inX13 : ∀ w ∈ wsX130, w ∈ pw_m_fitsTold := by decide +kernel
  refine lv_iconst (v := 1) hx hb dX13_fitsTold_0 (by decide) ?_
  refine lv_istore_n (lv' := [(1, .int 1), (0, .ref (ma 0))]) hx hb dX13_fitsTold_1 rfl hl (by decide) rfl (fun ls hl => ?_)
  refine lv_iconst (v := 0) hx hb dX13_fitsTold_2 (by decide) ?_
  refine lv_istore_n (lv' := [(2, .int 0), (1, .int 1), (0, .ref (ma 0))]) hx hb dX13_fitsTold_3 rfl hl (by decide) rfl (fun ls hl => ?_)
  refine lv_iload_n hx hb dX13_fitsTold_4 rfl (lv_at hl 0 rfl) ?_
  refine lv_aload_n hx hb dX13_fitsTold_5 rfl (lv_at hl 2 rfl) ?_
  refine va_get (ci := 10) (v := .ref (ma 22)) (C := RX13) (T := TX13) (N := 42) hx hb hts inX13 hown hK hP 0 rfl rfl 22 (by decide) lf126 (fun _ h9 => h9) rfl dX13_fitsTold_6 ?_
  refine lv_bipush (v := 26) hx hb dX13_fitsTold_9 (by decide) ?_
  refine va_iald hx hb hK hP 1 1 rfl rfl (show ¬ (_ ∨ _) by decide) dX13_fitsTold_11 ?_
  refine p_topI (v := 0) hs26 ?_
  refine lv_icmp_ge (tgt := 70) hx hb dX13_fitsTold_12 (by decide) (fun cx1 => ?_) (fun h9 => absurd (by decide) h9)
  refine lv_iload_n hx hb dX13_fitsTold_70 rfl (lv_at hl 1 rfl) ?_
  exact hret _ _ _ _ _ _ 1 () (by decide) (by decide) dX13_fitsTold_71 rfl rfl (hP.sub [0, 1] rfl) (hD.sub [0, 1] (by decide) rfl) hS
def pw_m_tellsMost : List Cond := .code yX13_tellsMost cX13_tellsMost 6 (some .int) :: ([.fieldLink RX13 409 "RiverVowsModel" "ways" "I", .code yX13_rivers cX13_rivers 1 (some .int), .fieldLink RX13 99 "RiverVowsModel" "lands" "[I", .methodLink RX13 296 yX13_rivers, .instanceMethod yX13_rivers, .selects RX13 yX13_rivers yX13_rivers, .initialized RX13] ++ wsX130)
set_option maxRecDepth 20000 in
theorem pg_m_tellsMost_0 : GoodIn pw_m_tellsMost (wsV RX13 296 RX13 yX13_rivers pw_m_rivers) := goodIn_sub (by decide +kernel) (by decide +kernel)
set_option maxHeartbeats 4000000 in
set_option maxRecDepth 100000 in
theorem c_m_tellsMost (l : Launch) (D : va_G) (k : Nat → ClassId) (sz : Nat) (ma : Nat → Nat) (i0 : Int32) (i2 : Int32) (i3 : Int32) (i7 : Int32) (i8 : Int32) (i13 : Int32) (i16 : Int32) (i17 : Int32) (i23 : Int32) (i25 : Int32) (i27 : Int32) (i28 : Int32) (i29 : Int32) (i30 : Int32) (i36 : Int32) (i37 : Int32) (i41 : Int64) (fl : Nat → Int32) (hl0 : fl 0 = 0) : pMi l yX13_tellsMost pw_m_tellsMost ({ frames := 1, cells := 0, slots := 0, locals := 20 }) D k [.ref (ma 0)] [((ma 0), .inr (10, [.int i0, .ref (ma 1), .int i2, .int i3, .ref (ma 4), .ref (ma 5), .ref (ma 6), .int i7, .int i8, .ref (ma 9), .ref (ma 10), .ref (ma 11), .ref (ma 12), .int i13, .ref (ma 14), .ref (ma 15), .int i16, .int i17, .ref (ma 18), .ref (ma 19), .ref (ma 20), .ref (ma 21), .ref (ma 22), .int i23, .ref (ma 24), .int i25, .ref (ma 26), .int i27, .int i28, .int i29, .int i30, .ref (ma 31), .ref (ma 32), .ref (ma 33), .ref (ma 34), .ref (ma 35), .int i36, .int i37, .ref (ma 38), .ref (ma 39), .ref (ma 40), .long i41])), ((ma 10), .inl (k 1, 220, .inl fl))] sz (S := Unit) (fun r9 u => r9 = (-1)) (fun u => [((ma 0), .inr (10, [.int i0, .ref (ma 1), .int i2, .int i3, .ref (ma 4), .ref (ma 5), .ref (ma 6), .int i7, .int i8, .ref (ma 9), .ref (ma 10), .ref (ma 11), .ref (ma 12), .int i13, .ref (ma 14), .ref (ma 15), .int i16, .int i17, .ref (ma 18), .ref (ma 19), .ref (ma 20), .ref (ma 21), .ref (ma 22), .int i23, .ref (ma 24), .int i25, .ref (ma 26), .int i27, .int i28, .int i29, .int i30, .ref (ma 31), .ref (ma 32), .ref (ma 33), .ref (ma 34), .ref (ma 35), .int i36, .int i37, .ref (ma 38), .ref (ma 39), .ref (ma 40), .long i41])), ((ma 10), .inl (k 1, 220, .inl fl))]) 0 0 := by
  refine p_ofi (cc := cX13_tellsMost) (maxL := 6) (rt := .int) (by decide) rfl (Nat.le_of_ble_eq_true rfl) ?_
  intro p e s m below meth c hx hb hml hown hts hK hN A hA hP hD hS Q hret ls hl
  have hl : lv_has ls 6 [(0, .ref (ma 0))] := hl
  have lf409 := hts (.fieldLink RX13 409 "RiverVowsModel" "ways" "I") (by decide +kernel)
  have inX13 : ∀ w ∈ wsX130, w ∈ pw_m_tellsMost := by decide +kernel
  refine lv_iconst (v := (-1)) hx hb dX13_tellsMost_0 (by decide) ?_
  refine lv_istore_n (lv' := [(1, .int (-1)), (0, .ref (ma 0))]) hx hb dX13_tellsMost_1 rfl hl (by decide) rfl (fun ls hl => ?_)
  refine lv_aload_n hx hb dX13_tellsMost_2 rfl (lv_at hl 1 rfl) ?_
  refine va_get (ci := 10) (v := .int i28) (C := RX13) (T := TX13) (N := 42) hx hb hts inX13 hown hK hP 0 rfl rfl 28 (by decide) lf409 (fun _ h9 => h9) rfl dX13_tellsMost_3 ?_
  refine lv_istore_n (lv' := [(2, .int i28), (1, .int (-1)), (0, .ref (ma 0))]) hx hb dX13_tellsMost_6 rfl hl (by decide) rfl (fun ls hl => ?_)
  refine lv_iconst (v := 0) hx hb dX13_tellsMost_7 (by decide) ?_
  refine lv_istore_n (lv' := [(3, .int 0), (2, .int i28), (1, .int (-1)), (0, .ref (ma 0))]) hx hb dX13_tellsMost_8 rfl hl (by decide) rfl (fun ls hl => ?_)
  refine lv_iload_n hx hb dX13_tellsMost_9 rfl (lv_at hl 0 rfl) ?_
  refine lv_iconst (v := 4) hx hb dX13_tellsMost_10 (by decide) ?_
  refine lv_aload_n hx hb dX13_tellsMost_11 rfl (lv_at hl 3 rfl) ?_
  refine p_ji (wr := []) (va_runV (As := []) (rest := [.int 4, .int 0]) ⟨hx, hb, hml, hown, hts⟩ (c_m_rivers l D k _ ma i0 i2 i3 i7 i8 i13 i16 i17 i23 i25 i27 i28 i29 i30 i36 i37 i41 fl hl0) (cwV 0 hts pg_m_tellsMost_0 rfl rfl rfl (by decide +kernel) ⟨Nat.le_of_ble_eq_true rfl, Nat.le_of_ble_eq_true rfl⟩) (pV hK hN hP hD [0, 1] rfl (by decide) rfl 0 rfl rfl) rfl rfl hl.1 rfl (lv_room (Nat.le_of_ble_eq_true rfl)) dX13_tellsMost_12 ⟨by decide, by decide⟩) hP hD hS hA [0, 1] [] rfl rfl (by decide) (by decide) (fun rx3 ux1 H locs wx2 hP hD hS => ?_)
  have hx4 : rx3 = 0 := wx2
  subst hx4
  have hP : va_P D vwCl [((ma 0), .inr (10, [.int i0, .ref (ma 1), .int i2, .int i3, .ref (ma 4), .ref (ma 5), .ref (ma 6), .int i7, .int i8, .ref (ma 9), .ref (ma 10), .ref (ma 11), .ref (ma 12), .int i13, .ref (ma 14), .ref (ma 15), .int i16, .int i17, .ref (ma 18), .ref (ma 19), .ref (ma 20), .ref (ma 21), .ref (ma 22), .int i23, .ref (ma 24), .int i25, .ref (ma 26), .int i27, .int i28, .int i29, .int i30, .ref (ma 31), .ref (ma 32), .ref (ma 33), .ref (ma 34), .ref (ma 35), .int i36, .int i37, .ref (ma 38), .ref (ma 39), .ref (ma 40), .long i41])), ((ma 10), .inl (k 1, 220, .inl fl))] H := hP
  have hD : va_D A [((ma 0), .inr (10, [.int i0, .ref (ma 1), .int i2, .int i3, .ref (ma 4), .ref (ma 5), .ref (ma 6), .int i7, .int i8, .ref (ma 9), .ref (ma 10), .ref (ma 11), .ref (ma 12), .int i13, .ref (ma 14), .ref (ma 15), .int i16, .int i17, .ref (ma 18), .ref (ma 19), .ref (ma 20), .ref (ma 21), .ref (ma 22), .int i23, .ref (ma 24), .int i25, .ref (ma 26), .int i27, .int i28, .int i29, .int i30, .ref (ma 31), .ref (ma 32), .ref (ma 33), .ref (ma 34), .ref (ma 35), .int i36, .int i37, .ref (ma 38), .ref (ma 39), .ref (ma 40), .long i41])), ((ma 10), .inl (k 1, 220, .inl fl))] := hD
  refine lv_imul hx hb dX13_tellsMost_15 ?_
  refine p_topI (v := 0) (by decide) ?_
  refine lv_icmp_ge (tgt := 108) hx hb dX13_tellsMost_16 (by decide) (fun cx5 => ?_) (fun h9 => absurd (by decide) h9)
  refine lv_iload_n hx hb dX13_tellsMost_108 rfl (lv_at hl 2 rfl) ?_
  exact hret _ _ _ _ _ _ (-1) () (by decide) (by decide) dX13_tellsMost_109 rfl rfl (hP.sub [0, 1] rfl) (hD.sub [0, 1] (by decide) rfl) hS
def pw_m_thrown : List Cond := .code yX13_thrown cX13_thrown 1 (some .int) :: ([.fieldLink RX13 1 "RiverVowsModel" "thrown" "I"] ++ wsX130)
set_option maxHeartbeats 4000000 in
set_option maxRecDepth 100000 in
theorem c_m_thrown (l : Launch) (D : va_G) (k : Nat → ClassId) (sz : Nat) (ma : Nat → Nat) (i0 : Int32) (i2 : Int32) (i3 : Int32) (i7 : Int32) (i8 : Int32) (i13 : Int32) (i16 : Int32) (i17 : Int32) (i23 : Int32) (i25 : Int32) (i27 : Int32) (i28 : Int32) (i29 : Int32) (i30 : Int32) (i36 : Int32) (i37 : Int32) (i41 : Int64)  : pMi l yX13_thrown pw_m_thrown ({ frames := 0, cells := 0, slots := 0, locals := 0 }) D k [.ref (ma 0)] [((ma 0), .inr (10, [.int i0, .ref (ma 1), .int i2, .int i3, .ref (ma 4), .ref (ma 5), .ref (ma 6), .int i7, .int i8, .ref (ma 9), .ref (ma 10), .ref (ma 11), .ref (ma 12), .int i13, .ref (ma 14), .ref (ma 15), .int i16, .int i17, .ref (ma 18), .ref (ma 19), .ref (ma 20), .ref (ma 21), .ref (ma 22), .int i23, .ref (ma 24), .int i25, .ref (ma 26), .int i27, .int i28, .int i29, .int i30, .ref (ma 31), .ref (ma 32), .ref (ma 33), .ref (ma 34), .ref (ma 35), .int i36, .int i37, .ref (ma 38), .ref (ma 39), .ref (ma 40), .long i41]))] sz (S := Unit) (fun r9 u => r9 = i0) (fun u => [((ma 0), .inr (10, [.int i0, .ref (ma 1), .int i2, .int i3, .ref (ma 4), .ref (ma 5), .ref (ma 6), .int i7, .int i8, .ref (ma 9), .ref (ma 10), .ref (ma 11), .ref (ma 12), .int i13, .ref (ma 14), .ref (ma 15), .int i16, .int i17, .ref (ma 18), .ref (ma 19), .ref (ma 20), .ref (ma 21), .ref (ma 22), .int i23, .ref (ma 24), .int i25, .ref (ma 26), .int i27, .int i28, .int i29, .int i30, .ref (ma 31), .ref (ma 32), .ref (ma 33), .ref (ma 34), .ref (ma 35), .int i36, .int i37, .ref (ma 38), .ref (ma 39), .ref (ma 40), .long i41]))]) 0 0 := by
  refine p_ofi (cc := cX13_thrown) (maxL := 1) (rt := .int) (by decide) rfl (Nat.le_of_ble_eq_true rfl) ?_
  intro p e s m below meth c hx hb hml hown hts hK hN A hA hP hD hS Q hret ls hl
  have hl : lv_has ls 1 [(0, .ref (ma 0))] := hl
  have lf1 := hts (.fieldLink RX13 1 "RiverVowsModel" "thrown" "I") (by decide +kernel)
  have inX13 : ∀ w ∈ wsX130, w ∈ pw_m_thrown := by decide +kernel
  refine lv_aload_n hx hb dX13_thrown_0 rfl (lv_at hl 0 rfl) ?_
  refine va_get (ci := 10) (v := .int i0) (C := RX13) (T := TX13) (N := 42) hx hb hts inX13 hown hK hP 0 rfl rfl 0 (by decide) lf1 (fun _ h9 => h9) rfl dX13_thrown_1 ?_
  exact hret _ _ _ _ _ _ i0 () (by decide) (by decide) dX13_thrown_4 rfl rfl (hP.sub [0] rfl) (hD.sub [0] (by decide) rfl) hS
def pw_m_starts_t : List Cond := .code yX13_starts cX13_starts 3 none :: ([.fieldLink RX13 126 "RiverVowsModel" "state" "[I"] ++ wsX130)
set_option maxHeartbeats 4000000 in
set_option maxRecDepth 100000 in
theorem c_m_starts_t (l : Launch) (D : va_G) (k : Nat → ClassId) (sz : Nat) (ma : Nat → Nat) (i0 : Int32) (i2 : Int32) (i3 : Int32) (i7 : Int32) (i8 : Int32) (i13 : Int32) (i16 : Int32) (i17 : Int32) (i23 : Int32) (i25 : Int32) (i27 : Int32) (i28 : Int32) (i29 : Int32) (i30 : Int32) (i36 : Int32) (i37 : Int32) (i41 : Int64) (fs : Nat → Int32) (x26 : Int32) (hs26 : fs 26 = x26) : pMv l yX13_starts pw_m_starts_t ({ frames := 0, cells := 0, slots := 0, locals := 0 }) D k [.ref (ma 0), .int 1260] [((ma 0), .inr (10, [.int i0, .ref (ma 1), .int i2, .int i3, .ref (ma 4), .ref (ma 5), .ref (ma 6), .int i7, .int i8, .ref (ma 9), .ref (ma 10), .ref (ma 11), .ref (ma 12), .int i13, .ref (ma 14), .ref (ma 15), .int i16, .int i17, .ref (ma 18), .ref (ma 19), .ref (ma 20), .ref (ma 21), .ref (ma 22), .int i23, .ref (ma 24), .int i25, .ref (ma 26), .int i27, .int i28, .int i29, .int i30, .ref (ma 31), .ref (ma 32), .ref (ma 33), .ref (ma 34), .ref (ma 35), .int i36, .int i37, .ref (ma 38), .ref (ma 39), .ref (ma 40), .long i41])), ((ma 22), .inl (k 1, 1320, .inl fs))] sz (S := (Nat → Int32)) (fun u => u 26 = x26) (fun u => [((ma 0), .inr (10, [.int i0, .ref (ma 1), .int i2, .int i3, .ref (ma 4), .ref (ma 5), .ref (ma 6), .int i7, .int i8, .ref (ma 9), .ref (ma 10), .ref (ma 11), .ref (ma 12), .int i13, .ref (ma 14), .ref (ma 15), .int i16, .int i17, .ref (ma 18), .ref (ma 19), .ref (ma 20), .ref (ma 21), .ref (ma 22), .int i23, .ref (ma 24), .int i25, .ref (ma 26), .int i27, .int i28, .int i29, .int i30, .ref (ma 31), .ref (ma 32), .ref (ma 33), .ref (ma 34), .ref (ma 35), .int i36, .int i37, .ref (ma 38), .ref (ma 39), .ref (ma 40), .long i41])), ((ma 22), .inl (k 1, 1320, .inl u))]) 0 0 := by
  refine p_ofv (cc := cX13_starts) (maxL := 3) (by decide) rfl (Nat.le_of_ble_eq_true rfl) ?_
  intro p e s m below meth c hx hb hml hown hts hin hK hN A hA hP hD hS Q hret ls hl
  have hl : lv_has ls 3 [(0, .ref (ma 0)), (1, .int 1260)] := hl
  have lf126 := hts (.fieldLink RX13 126 "RiverVowsModel" "state" "[I") (by decide +kernel)
  have inX13 : ∀ w ∈ wsX130, w ∈ pw_m_starts_t := by decide +kernel
  refine lv_aload_n hx hb dX13_starts_0 rfl (lv_at hl 0 rfl) ?_
  refine va_get (ci := 10) (v := .ref (ma 22)) (C := RX13) (T := TX13) (N := 42) hx hb hts inX13 hown hK hP 0 rfl rfl 22 (by decide) lf126 (fun _ h9 => h9) rfl dX13_starts_1 ?_
  refine lv_iload_n hx hb dX13_starts_4 rfl (lv_at hl 1 rfl) ?_
  refine lv_iconst (v := 0) hx hb dX13_starts_5 (by decide) ?_
  refine lv_iadd hx hb dX13_starts_6 ?_
  refine p_topI (v := 1260) (by decide) ?_
  refine lv_iconst (v := 0) hx hb dX13_starts_7 (by decide) ?_
  refine va_iast hx hb hK hP hD hS 1 1 rfl rfl (show ¬ (_ ∨ _) by decide) dX13_starts_8 (fun H locs hP hD hS => ?_)
  have hP : va_P D vwCl [((ma 0), .inr (10, [.int i0, .ref (ma 1), .int i2, .int i3, .ref (ma 4), .ref (ma 5), .ref (ma 6), .int i7, .int i8, .ref (ma 9), .ref (ma 10), .ref (ma 11), .ref (ma 12), .int i13, .ref (ma 14), .ref (ma 15), .int i16, .int i17, .ref (ma 18), .ref (ma 19), .ref (ma 20), .ref (ma 21), .ref (ma 22), .int i23, .ref (ma 24), .int i25, .ref (ma 26), .int i27, .int i28, .int i29, .int i30, .ref (ma 31), .ref (ma 32), .ref (ma 33), .ref (ma 34), .ref (ma 35), .int i36, .int i37, .ref (ma 38), .ref (ma 39), .ref (ma 40), .long i41])), ((ma 22), .inl (k 1, 1320, .inl (upd fs 1260 0)))] H := hP
  have hD : va_D A [((ma 0), .inr (10, [.int i0, .ref (ma 1), .int i2, .int i3, .ref (ma 4), .ref (ma 5), .ref (ma 6), .int i7, .int i8, .ref (ma 9), .ref (ma 10), .ref (ma 11), .ref (ma 12), .int i13, .ref (ma 14), .ref (ma 15), .int i16, .int i17, .ref (ma 18), .ref (ma 19), .ref (ma 20), .ref (ma 21), .ref (ma 22), .int i23, .ref (ma 24), .int i25, .ref (ma 26), .int i27, .int i28, .int i29, .int i30, .ref (ma 31), .ref (ma 32), .ref (ma 33), .ref (ma 34), .ref (ma 35), .int i36, .int i37, .ref (ma 38), .ref (ma 39), .ref (ma 40), .long i41])), ((ma 22), .inl (k 1, 1320, .inl (upd fs 1260 0)))] := hD
  refine lv_iconst (v := 0) hx hb dX13_starts_9 (by decide) ?_
  refine lv_istore_n (lv' := [(2, .int 0), (0, .ref (ma 0)), (1, .int 1260)]) hx hb dX13_starts_10 rfl hl (by decide) rfl (fun ls hl => ?_)
  refine lv_iload_n hx hb dX13_starts_11 rfl (lv_at hl 0 rfl) ?_
  refine lv_bipush (v := 6) hx hb dX13_starts_12 (by decide) ?_
  refine lv_icmp_ge (tgt := 58) hx hb dX13_starts_14 (by decide) (fun h9 => absurd h9 (by decide)) (fun cx1 => ?_)
  refine lv_aload_n hx hb dX13_starts_17 rfl (lv_at hl 1 rfl) ?_
  refine va_get (ci := 10) (v := .ref (ma 22)) (C := RX13) (T := TX13) (N := 42) hx hb hts inX13 hown hK hP 0 rfl rfl 22 (by decide) lf126 (fun _ h9 => h9) rfl dX13_starts_18 ?_
  refine lv_iload_n hx hb dX13_starts_21 rfl (lv_at hl 2 rfl) ?_
  refine lv_iconst (v := 1) hx hb dX13_starts_22 (by decide) ?_
  refine lv_iadd hx hb dX13_starts_23 ?_
  refine p_topI (v := 1261) (by decide) ?_
  refine lv_iload_n hx hb dX13_starts_24 rfl (lv_at hl 0 rfl) ?_
  refine lv_iadd hx hb dX13_starts_25 ?_
  refine p_topI (v := 1261) (by decide) ?_
  refine lv_iconst (v := (-1)) hx hb dX13_starts_26 (by decide) ?_
  refine va_iast hx hb hK hP hD hS 1 1 rfl rfl (show ¬ (_ ∨ _) by decide) dX13_starts_27 (fun H locs hP hD hS => ?_)
  have hP : va_P D vwCl [((ma 0), .inr (10, [.int i0, .ref (ma 1), .int i2, .int i3, .ref (ma 4), .ref (ma 5), .ref (ma 6), .int i7, .int i8, .ref (ma 9), .ref (ma 10), .ref (ma 11), .ref (ma 12), .int i13, .ref (ma 14), .ref (ma 15), .int i16, .int i17, .ref (ma 18), .ref (ma 19), .ref (ma 20), .ref (ma 21), .ref (ma 22), .int i23, .ref (ma 24), .int i25, .ref (ma 26), .int i27, .int i28, .int i29, .int i30, .ref (ma 31), .ref (ma 32), .ref (ma 33), .ref (ma 34), .ref (ma 35), .int i36, .int i37, .ref (ma 38), .ref (ma 39), .ref (ma 40), .long i41])), ((ma 22), .inl (k 1, 1320, .inl (upd (upd fs 1260 0) 1261 (-1))))] H := hP
  have hD : va_D A [((ma 0), .inr (10, [.int i0, .ref (ma 1), .int i2, .int i3, .ref (ma 4), .ref (ma 5), .ref (ma 6), .int i7, .int i8, .ref (ma 9), .ref (ma 10), .ref (ma 11), .ref (ma 12), .int i13, .ref (ma 14), .ref (ma 15), .int i16, .int i17, .ref (ma 18), .ref (ma 19), .ref (ma 20), .ref (ma 21), .ref (ma 22), .int i23, .ref (ma 24), .int i25, .ref (ma 26), .int i27, .int i28, .int i29, .int i30, .ref (ma 31), .ref (ma 32), .ref (ma 33), .ref (ma 34), .ref (ma 35), .int i36, .int i37, .ref (ma 38), .ref (ma 39), .ref (ma 40), .long i41])), ((ma 22), .inl (k 1, 1320, .inl (upd (upd fs 1260 0) 1261 (-1))))] := hD
  refine lv_aload_n hx hb dX13_starts_28 rfl (lv_at hl 1 rfl) ?_
  refine va_get (ci := 10) (v := .ref (ma 22)) (C := RX13) (T := TX13) (N := 42) hx hb hts inX13 hown hK hP 0 rfl rfl 22 (by decide) lf126 (fun _ h9 => h9) rfl dX13_starts_29 ?_
  refine lv_iload_n hx hb dX13_starts_32 rfl (lv_at hl 2 rfl) ?_
  refine lv_bipush (v := 7) hx hb dX13_starts_33 (by decide) ?_
  refine lv_iadd hx hb dX13_starts_35 ?_
  refine p_topI (v := 1267) (by decide) ?_
  refine lv_iload_n hx hb dX13_starts_36 rfl (lv_at hl 0 rfl) ?_
  refine lv_iadd hx hb dX13_starts_37 ?_
  refine p_topI (v := 1267) (by decide) ?_
  refine lv_iconst (v := 0) hx hb dX13_starts_38 (by decide) ?_
  refine va_iast hx hb hK hP hD hS 1 1 rfl rfl (show ¬ (_ ∨ _) by decide) dX13_starts_39 (fun H locs hP hD hS => ?_)
  have hP : va_P D vwCl [((ma 0), .inr (10, [.int i0, .ref (ma 1), .int i2, .int i3, .ref (ma 4), .ref (ma 5), .ref (ma 6), .int i7, .int i8, .ref (ma 9), .ref (ma 10), .ref (ma 11), .ref (ma 12), .int i13, .ref (ma 14), .ref (ma 15), .int i16, .int i17, .ref (ma 18), .ref (ma 19), .ref (ma 20), .ref (ma 21), .ref (ma 22), .int i23, .ref (ma 24), .int i25, .ref (ma 26), .int i27, .int i28, .int i29, .int i30, .ref (ma 31), .ref (ma 32), .ref (ma 33), .ref (ma 34), .ref (ma 35), .int i36, .int i37, .ref (ma 38), .ref (ma 39), .ref (ma 40), .long i41])), ((ma 22), .inl (k 1, 1320, .inl (upd (upd (upd fs 1260 0) 1261 (-1)) 1267 0)))] H := hP
  have hD : va_D A [((ma 0), .inr (10, [.int i0, .ref (ma 1), .int i2, .int i3, .ref (ma 4), .ref (ma 5), .ref (ma 6), .int i7, .int i8, .ref (ma 9), .ref (ma 10), .ref (ma 11), .ref (ma 12), .int i13, .ref (ma 14), .ref (ma 15), .int i16, .int i17, .ref (ma 18), .ref (ma 19), .ref (ma 20), .ref (ma 21), .ref (ma 22), .int i23, .ref (ma 24), .int i25, .ref (ma 26), .int i27, .int i28, .int i29, .int i30, .ref (ma 31), .ref (ma 32), .ref (ma 33), .ref (ma 34), .ref (ma 35), .int i36, .int i37, .ref (ma 38), .ref (ma 39), .ref (ma 40), .long i41])), ((ma 22), .inl (k 1, 1320, .inl (upd (upd (upd fs 1260 0) 1261 (-1)) 1267 0)))] := hD
  refine lv_aload_n hx hb dX13_starts_40 rfl (lv_at hl 1 rfl) ?_
  refine va_get (ci := 10) (v := .ref (ma 22)) (C := RX13) (T := TX13) (N := 42) hx hb hts inX13 hown hK hP 0 rfl rfl 22 (by decide) lf126 (fun _ h9 => h9) rfl dX13_starts_41 ?_
  refine lv_iload_n hx hb dX13_starts_44 rfl (lv_at hl 2 rfl) ?_
  refine lv_bipush (v := 13) hx hb dX13_starts_45 (by decide) ?_
  refine lv_iadd hx hb dX13_starts_47 ?_
  refine p_topI (v := 1273) (by decide) ?_
  refine lv_iload_n hx hb dX13_starts_48 rfl (lv_at hl 0 rfl) ?_
  refine lv_iadd hx hb dX13_starts_49 ?_
  refine p_topI (v := 1273) (by decide) ?_
  refine lv_iconst (v := 0) hx hb dX13_starts_50 (by decide) ?_
  refine va_iast hx hb hK hP hD hS 1 1 rfl rfl (show ¬ (_ ∨ _) by decide) dX13_starts_51 (fun H locs hP hD hS => ?_)
  have hP : va_P D vwCl [((ma 0), .inr (10, [.int i0, .ref (ma 1), .int i2, .int i3, .ref (ma 4), .ref (ma 5), .ref (ma 6), .int i7, .int i8, .ref (ma 9), .ref (ma 10), .ref (ma 11), .ref (ma 12), .int i13, .ref (ma 14), .ref (ma 15), .int i16, .int i17, .ref (ma 18), .ref (ma 19), .ref (ma 20), .ref (ma 21), .ref (ma 22), .int i23, .ref (ma 24), .int i25, .ref (ma 26), .int i27, .int i28, .int i29, .int i30, .ref (ma 31), .ref (ma 32), .ref (ma 33), .ref (ma 34), .ref (ma 35), .int i36, .int i37, .ref (ma 38), .ref (ma 39), .ref (ma 40), .long i41])), ((ma 22), .inl (k 1, 1320, .inl (upd (upd (upd (upd fs 1260 0) 1261 (-1)) 1267 0) 1273 0)))] H := hP
  have hD : va_D A [((ma 0), .inr (10, [.int i0, .ref (ma 1), .int i2, .int i3, .ref (ma 4), .ref (ma 5), .ref (ma 6), .int i7, .int i8, .ref (ma 9), .ref (ma 10), .ref (ma 11), .ref (ma 12), .int i13, .ref (ma 14), .ref (ma 15), .int i16, .int i17, .ref (ma 18), .ref (ma 19), .ref (ma 20), .ref (ma 21), .ref (ma 22), .int i23, .ref (ma 24), .int i25, .ref (ma 26), .int i27, .int i28, .int i29, .int i30, .ref (ma 31), .ref (ma 32), .ref (ma 33), .ref (ma 34), .ref (ma 35), .int i36, .int i37, .ref (ma 38), .ref (ma 39), .ref (ma 40), .long i41])), ((ma 22), .inl (k 1, 1320, .inl (upd (upd (upd (upd fs 1260 0) 1261 (-1)) 1267 0) 1273 0)))] := hD
  refine lv_iinc (v := 1) (lv' := [(2, .int 1), (0, .ref (ma 0)), (1, .int 1260)]) hx hb dX13_starts_52 hl (k := 0) rfl (by decide) (by decide) rfl (fun ls hl => ?_)
  refine lv_goto (tgt := 11) hx hb dX13_starts_55 (by decide) ?_
  refine lv_iload_n hx hb dX13_starts_11 rfl (lv_at hl 0 rfl) ?_
  refine lv_bipush (v := 6) hx hb dX13_starts_12 (by decide) ?_
  refine lv_icmp_ge (tgt := 58) hx hb dX13_starts_14 (by decide) (fun h9 => absurd h9 (by decide)) (fun cx2 => ?_)
  refine lv_aload_n hx hb dX13_starts_17 rfl (lv_at hl 1 rfl) ?_
  refine va_get (ci := 10) (v := .ref (ma 22)) (C := RX13) (T := TX13) (N := 42) hx hb hts inX13 hown hK hP 0 rfl rfl 22 (by decide) lf126 (fun _ h9 => h9) rfl dX13_starts_18 ?_
  refine lv_iload_n hx hb dX13_starts_21 rfl (lv_at hl 2 rfl) ?_
  refine lv_iconst (v := 1) hx hb dX13_starts_22 (by decide) ?_
  refine lv_iadd hx hb dX13_starts_23 ?_
  refine p_topI (v := 1261) (by decide) ?_
  refine lv_iload_n hx hb dX13_starts_24 rfl (lv_at hl 0 rfl) ?_
  refine lv_iadd hx hb dX13_starts_25 ?_
  refine p_topI (v := 1262) (by decide) ?_
  refine lv_iconst (v := (-1)) hx hb dX13_starts_26 (by decide) ?_
  refine va_iast hx hb hK hP hD hS 1 1 rfl rfl (show ¬ (_ ∨ _) by decide) dX13_starts_27 (fun H locs hP hD hS => ?_)
  have hP : va_P D vwCl [((ma 0), .inr (10, [.int i0, .ref (ma 1), .int i2, .int i3, .ref (ma 4), .ref (ma 5), .ref (ma 6), .int i7, .int i8, .ref (ma 9), .ref (ma 10), .ref (ma 11), .ref (ma 12), .int i13, .ref (ma 14), .ref (ma 15), .int i16, .int i17, .ref (ma 18), .ref (ma 19), .ref (ma 20), .ref (ma 21), .ref (ma 22), .int i23, .ref (ma 24), .int i25, .ref (ma 26), .int i27, .int i28, .int i29, .int i30, .ref (ma 31), .ref (ma 32), .ref (ma 33), .ref (ma 34), .ref (ma 35), .int i36, .int i37, .ref (ma 38), .ref (ma 39), .ref (ma 40), .long i41])), ((ma 22), .inl (k 1, 1320, .inl (upd (upd (upd (upd (upd fs 1260 0) 1261 (-1)) 1267 0) 1273 0) 1262 (-1))))] H := hP
  have hD : va_D A [((ma 0), .inr (10, [.int i0, .ref (ma 1), .int i2, .int i3, .ref (ma 4), .ref (ma 5), .ref (ma 6), .int i7, .int i8, .ref (ma 9), .ref (ma 10), .ref (ma 11), .ref (ma 12), .int i13, .ref (ma 14), .ref (ma 15), .int i16, .int i17, .ref (ma 18), .ref (ma 19), .ref (ma 20), .ref (ma 21), .ref (ma 22), .int i23, .ref (ma 24), .int i25, .ref (ma 26), .int i27, .int i28, .int i29, .int i30, .ref (ma 31), .ref (ma 32), .ref (ma 33), .ref (ma 34), .ref (ma 35), .int i36, .int i37, .ref (ma 38), .ref (ma 39), .ref (ma 40), .long i41])), ((ma 22), .inl (k 1, 1320, .inl (upd (upd (upd (upd (upd fs 1260 0) 1261 (-1)) 1267 0) 1273 0) 1262 (-1))))] := hD
  refine lv_aload_n hx hb dX13_starts_28 rfl (lv_at hl 1 rfl) ?_
  refine va_get (ci := 10) (v := .ref (ma 22)) (C := RX13) (T := TX13) (N := 42) hx hb hts inX13 hown hK hP 0 rfl rfl 22 (by decide) lf126 (fun _ h9 => h9) rfl dX13_starts_29 ?_
  refine lv_iload_n hx hb dX13_starts_32 rfl (lv_at hl 2 rfl) ?_
  refine lv_bipush (v := 7) hx hb dX13_starts_33 (by decide) ?_
  refine lv_iadd hx hb dX13_starts_35 ?_
  refine p_topI (v := 1267) (by decide) ?_
  refine lv_iload_n hx hb dX13_starts_36 rfl (lv_at hl 0 rfl) ?_
  refine lv_iadd hx hb dX13_starts_37 ?_
  refine p_topI (v := 1268) (by decide) ?_
  refine lv_iconst (v := 0) hx hb dX13_starts_38 (by decide) ?_
  refine va_iast hx hb hK hP hD hS 1 1 rfl rfl (show ¬ (_ ∨ _) by decide) dX13_starts_39 (fun H locs hP hD hS => ?_)
  have hP : va_P D vwCl [((ma 0), .inr (10, [.int i0, .ref (ma 1), .int i2, .int i3, .ref (ma 4), .ref (ma 5), .ref (ma 6), .int i7, .int i8, .ref (ma 9), .ref (ma 10), .ref (ma 11), .ref (ma 12), .int i13, .ref (ma 14), .ref (ma 15), .int i16, .int i17, .ref (ma 18), .ref (ma 19), .ref (ma 20), .ref (ma 21), .ref (ma 22), .int i23, .ref (ma 24), .int i25, .ref (ma 26), .int i27, .int i28, .int i29, .int i30, .ref (ma 31), .ref (ma 32), .ref (ma 33), .ref (ma 34), .ref (ma 35), .int i36, .int i37, .ref (ma 38), .ref (ma 39), .ref (ma 40), .long i41])), ((ma 22), .inl (k 1, 1320, .inl (upd (upd (upd (upd (upd (upd fs 1260 0) 1261 (-1)) 1267 0) 1273 0) 1262 (-1)) 1268 0)))] H := hP
  have hD : va_D A [((ma 0), .inr (10, [.int i0, .ref (ma 1), .int i2, .int i3, .ref (ma 4), .ref (ma 5), .ref (ma 6), .int i7, .int i8, .ref (ma 9), .ref (ma 10), .ref (ma 11), .ref (ma 12), .int i13, .ref (ma 14), .ref (ma 15), .int i16, .int i17, .ref (ma 18), .ref (ma 19), .ref (ma 20), .ref (ma 21), .ref (ma 22), .int i23, .ref (ma 24), .int i25, .ref (ma 26), .int i27, .int i28, .int i29, .int i30, .ref (ma 31), .ref (ma 32), .ref (ma 33), .ref (ma 34), .ref (ma 35), .int i36, .int i37, .ref (ma 38), .ref (ma 39), .ref (ma 40), .long i41])), ((ma 22), .inl (k 1, 1320, .inl (upd (upd (upd (upd (upd (upd fs 1260 0) 1261 (-1)) 1267 0) 1273 0) 1262 (-1)) 1268 0)))] := hD
  refine lv_aload_n hx hb dX13_starts_40 rfl (lv_at hl 1 rfl) ?_
  refine va_get (ci := 10) (v := .ref (ma 22)) (C := RX13) (T := TX13) (N := 42) hx hb hts inX13 hown hK hP 0 rfl rfl 22 (by decide) lf126 (fun _ h9 => h9) rfl dX13_starts_41 ?_
  refine lv_iload_n hx hb dX13_starts_44 rfl (lv_at hl 2 rfl) ?_
  refine lv_bipush (v := 13) hx hb dX13_starts_45 (by decide) ?_
  refine lv_iadd hx hb dX13_starts_47 ?_
  refine p_topI (v := 1273) (by decide) ?_
  refine lv_iload_n hx hb dX13_starts_48 rfl (lv_at hl 0 rfl) ?_
  refine lv_iadd hx hb dX13_starts_49 ?_
  refine p_topI (v := 1274) (by decide) ?_
  refine lv_iconst (v := 0) hx hb dX13_starts_50 (by decide) ?_
  refine va_iast hx hb hK hP hD hS 1 1 rfl rfl (show ¬ (_ ∨ _) by decide) dX13_starts_51 (fun H locs hP hD hS => ?_)
  have hP : va_P D vwCl [((ma 0), .inr (10, [.int i0, .ref (ma 1), .int i2, .int i3, .ref (ma 4), .ref (ma 5), .ref (ma 6), .int i7, .int i8, .ref (ma 9), .ref (ma 10), .ref (ma 11), .ref (ma 12), .int i13, .ref (ma 14), .ref (ma 15), .int i16, .int i17, .ref (ma 18), .ref (ma 19), .ref (ma 20), .ref (ma 21), .ref (ma 22), .int i23, .ref (ma 24), .int i25, .ref (ma 26), .int i27, .int i28, .int i29, .int i30, .ref (ma 31), .ref (ma 32), .ref (ma 33), .ref (ma 34), .ref (ma 35), .int i36, .int i37, .ref (ma 38), .ref (ma 39), .ref (ma 40), .long i41])), ((ma 22), .inl (k 1, 1320, .inl (upd (upd (upd (upd (upd (upd (upd fs 1260 0) 1261 (-1)) 1267 0) 1273 0) 1262 (-1)) 1268 0) 1274 0)))] H := hP
  have hD : va_D A [((ma 0), .inr (10, [.int i0, .ref (ma 1), .int i2, .int i3, .ref (ma 4), .ref (ma 5), .ref (ma 6), .int i7, .int i8, .ref (ma 9), .ref (ma 10), .ref (ma 11), .ref (ma 12), .int i13, .ref (ma 14), .ref (ma 15), .int i16, .int i17, .ref (ma 18), .ref (ma 19), .ref (ma 20), .ref (ma 21), .ref (ma 22), .int i23, .ref (ma 24), .int i25, .ref (ma 26), .int i27, .int i28, .int i29, .int i30, .ref (ma 31), .ref (ma 32), .ref (ma 33), .ref (ma 34), .ref (ma 35), .int i36, .int i37, .ref (ma 38), .ref (ma 39), .ref (ma 40), .long i41])), ((ma 22), .inl (k 1, 1320, .inl (upd (upd (upd (upd (upd (upd (upd fs 1260 0) 1261 (-1)) 1267 0) 1273 0) 1262 (-1)) 1268 0) 1274 0)))] := hD
  refine lv_iinc (v := 2) (lv' := [(2, .int 2), (0, .ref (ma 0)), (1, .int 1260)]) hx hb dX13_starts_52 hl (k := 0) rfl (by decide) (by decide) rfl (fun ls hl => ?_)
  refine lv_goto (tgt := 11) hx hb dX13_starts_55 (by decide) ?_
  refine lv_iload_n hx hb dX13_starts_11 rfl (lv_at hl 0 rfl) ?_
  refine lv_bipush (v := 6) hx hb dX13_starts_12 (by decide) ?_
  refine lv_icmp_ge (tgt := 58) hx hb dX13_starts_14 (by decide) (fun h9 => absurd h9 (by decide)) (fun cx3 => ?_)
  refine lv_aload_n hx hb dX13_starts_17 rfl (lv_at hl 1 rfl) ?_
  refine va_get (ci := 10) (v := .ref (ma 22)) (C := RX13) (T := TX13) (N := 42) hx hb hts inX13 hown hK hP 0 rfl rfl 22 (by decide) lf126 (fun _ h9 => h9) rfl dX13_starts_18 ?_
  refine lv_iload_n hx hb dX13_starts_21 rfl (lv_at hl 2 rfl) ?_
  refine lv_iconst (v := 1) hx hb dX13_starts_22 (by decide) ?_
  refine lv_iadd hx hb dX13_starts_23 ?_
  refine p_topI (v := 1261) (by decide) ?_
  refine lv_iload_n hx hb dX13_starts_24 rfl (lv_at hl 0 rfl) ?_
  refine lv_iadd hx hb dX13_starts_25 ?_
  refine p_topI (v := 1263) (by decide) ?_
  refine lv_iconst (v := (-1)) hx hb dX13_starts_26 (by decide) ?_
  refine va_iast hx hb hK hP hD hS 1 1 rfl rfl (show ¬ (_ ∨ _) by decide) dX13_starts_27 (fun H locs hP hD hS => ?_)
  have hP : va_P D vwCl [((ma 0), .inr (10, [.int i0, .ref (ma 1), .int i2, .int i3, .ref (ma 4), .ref (ma 5), .ref (ma 6), .int i7, .int i8, .ref (ma 9), .ref (ma 10), .ref (ma 11), .ref (ma 12), .int i13, .ref (ma 14), .ref (ma 15), .int i16, .int i17, .ref (ma 18), .ref (ma 19), .ref (ma 20), .ref (ma 21), .ref (ma 22), .int i23, .ref (ma 24), .int i25, .ref (ma 26), .int i27, .int i28, .int i29, .int i30, .ref (ma 31), .ref (ma 32), .ref (ma 33), .ref (ma 34), .ref (ma 35), .int i36, .int i37, .ref (ma 38), .ref (ma 39), .ref (ma 40), .long i41])), ((ma 22), .inl (k 1, 1320, .inl (upd (upd (upd (upd (upd (upd (upd (upd fs 1260 0) 1261 (-1)) 1267 0) 1273 0) 1262 (-1)) 1268 0) 1274 0) 1263 (-1))))] H := hP
  have hD : va_D A [((ma 0), .inr (10, [.int i0, .ref (ma 1), .int i2, .int i3, .ref (ma 4), .ref (ma 5), .ref (ma 6), .int i7, .int i8, .ref (ma 9), .ref (ma 10), .ref (ma 11), .ref (ma 12), .int i13, .ref (ma 14), .ref (ma 15), .int i16, .int i17, .ref (ma 18), .ref (ma 19), .ref (ma 20), .ref (ma 21), .ref (ma 22), .int i23, .ref (ma 24), .int i25, .ref (ma 26), .int i27, .int i28, .int i29, .int i30, .ref (ma 31), .ref (ma 32), .ref (ma 33), .ref (ma 34), .ref (ma 35), .int i36, .int i37, .ref (ma 38), .ref (ma 39), .ref (ma 40), .long i41])), ((ma 22), .inl (k 1, 1320, .inl (upd (upd (upd (upd (upd (upd (upd (upd fs 1260 0) 1261 (-1)) 1267 0) 1273 0) 1262 (-1)) 1268 0) 1274 0) 1263 (-1))))] := hD
  refine lv_aload_n hx hb dX13_starts_28 rfl (lv_at hl 1 rfl) ?_
  refine va_get (ci := 10) (v := .ref (ma 22)) (C := RX13) (T := TX13) (N := 42) hx hb hts inX13 hown hK hP 0 rfl rfl 22 (by decide) lf126 (fun _ h9 => h9) rfl dX13_starts_29 ?_
  refine lv_iload_n hx hb dX13_starts_32 rfl (lv_at hl 2 rfl) ?_
  refine lv_bipush (v := 7) hx hb dX13_starts_33 (by decide) ?_
  refine lv_iadd hx hb dX13_starts_35 ?_
  refine p_topI (v := 1267) (by decide) ?_
  refine lv_iload_n hx hb dX13_starts_36 rfl (lv_at hl 0 rfl) ?_
  refine lv_iadd hx hb dX13_starts_37 ?_
  refine p_topI (v := 1269) (by decide) ?_
  refine lv_iconst (v := 0) hx hb dX13_starts_38 (by decide) ?_
  refine va_iast hx hb hK hP hD hS 1 1 rfl rfl (show ¬ (_ ∨ _) by decide) dX13_starts_39 (fun H locs hP hD hS => ?_)
  have hP : va_P D vwCl [((ma 0), .inr (10, [.int i0, .ref (ma 1), .int i2, .int i3, .ref (ma 4), .ref (ma 5), .ref (ma 6), .int i7, .int i8, .ref (ma 9), .ref (ma 10), .ref (ma 11), .ref (ma 12), .int i13, .ref (ma 14), .ref (ma 15), .int i16, .int i17, .ref (ma 18), .ref (ma 19), .ref (ma 20), .ref (ma 21), .ref (ma 22), .int i23, .ref (ma 24), .int i25, .ref (ma 26), .int i27, .int i28, .int i29, .int i30, .ref (ma 31), .ref (ma 32), .ref (ma 33), .ref (ma 34), .ref (ma 35), .int i36, .int i37, .ref (ma 38), .ref (ma 39), .ref (ma 40), .long i41])), ((ma 22), .inl (k 1, 1320, .inl (upd (upd (upd (upd (upd (upd (upd (upd (upd fs 1260 0) 1261 (-1)) 1267 0) 1273 0) 1262 (-1)) 1268 0) 1274 0) 1263 (-1)) 1269 0)))] H := hP
  have hD : va_D A [((ma 0), .inr (10, [.int i0, .ref (ma 1), .int i2, .int i3, .ref (ma 4), .ref (ma 5), .ref (ma 6), .int i7, .int i8, .ref (ma 9), .ref (ma 10), .ref (ma 11), .ref (ma 12), .int i13, .ref (ma 14), .ref (ma 15), .int i16, .int i17, .ref (ma 18), .ref (ma 19), .ref (ma 20), .ref (ma 21), .ref (ma 22), .int i23, .ref (ma 24), .int i25, .ref (ma 26), .int i27, .int i28, .int i29, .int i30, .ref (ma 31), .ref (ma 32), .ref (ma 33), .ref (ma 34), .ref (ma 35), .int i36, .int i37, .ref (ma 38), .ref (ma 39), .ref (ma 40), .long i41])), ((ma 22), .inl (k 1, 1320, .inl (upd (upd (upd (upd (upd (upd (upd (upd (upd fs 1260 0) 1261 (-1)) 1267 0) 1273 0) 1262 (-1)) 1268 0) 1274 0) 1263 (-1)) 1269 0)))] := hD
  refine lv_aload_n hx hb dX13_starts_40 rfl (lv_at hl 1 rfl) ?_
  refine va_get (ci := 10) (v := .ref (ma 22)) (C := RX13) (T := TX13) (N := 42) hx hb hts inX13 hown hK hP 0 rfl rfl 22 (by decide) lf126 (fun _ h9 => h9) rfl dX13_starts_41 ?_
  refine lv_iload_n hx hb dX13_starts_44 rfl (lv_at hl 2 rfl) ?_
  refine lv_bipush (v := 13) hx hb dX13_starts_45 (by decide) ?_
  refine lv_iadd hx hb dX13_starts_47 ?_
  refine p_topI (v := 1273) (by decide) ?_
  refine lv_iload_n hx hb dX13_starts_48 rfl (lv_at hl 0 rfl) ?_
  refine lv_iadd hx hb dX13_starts_49 ?_
  refine p_topI (v := 1275) (by decide) ?_
  refine lv_iconst (v := 0) hx hb dX13_starts_50 (by decide) ?_
  refine va_iast hx hb hK hP hD hS 1 1 rfl rfl (show ¬ (_ ∨ _) by decide) dX13_starts_51 (fun H locs hP hD hS => ?_)
  have hP : va_P D vwCl [((ma 0), .inr (10, [.int i0, .ref (ma 1), .int i2, .int i3, .ref (ma 4), .ref (ma 5), .ref (ma 6), .int i7, .int i8, .ref (ma 9), .ref (ma 10), .ref (ma 11), .ref (ma 12), .int i13, .ref (ma 14), .ref (ma 15), .int i16, .int i17, .ref (ma 18), .ref (ma 19), .ref (ma 20), .ref (ma 21), .ref (ma 22), .int i23, .ref (ma 24), .int i25, .ref (ma 26), .int i27, .int i28, .int i29, .int i30, .ref (ma 31), .ref (ma 32), .ref (ma 33), .ref (ma 34), .ref (ma 35), .int i36, .int i37, .ref (ma 38), .ref (ma 39), .ref (ma 40), .long i41])), ((ma 22), .inl (k 1, 1320, .inl (upd (upd (upd (upd (upd (upd (upd (upd (upd (upd fs 1260 0) 1261 (-1)) 1267 0) 1273 0) 1262 (-1)) 1268 0) 1274 0) 1263 (-1)) 1269 0) 1275 0)))] H := hP
  have hD : va_D A [((ma 0), .inr (10, [.int i0, .ref (ma 1), .int i2, .int i3, .ref (ma 4), .ref (ma 5), .ref (ma 6), .int i7, .int i8, .ref (ma 9), .ref (ma 10), .ref (ma 11), .ref (ma 12), .int i13, .ref (ma 14), .ref (ma 15), .int i16, .int i17, .ref (ma 18), .ref (ma 19), .ref (ma 20), .ref (ma 21), .ref (ma 22), .int i23, .ref (ma 24), .int i25, .ref (ma 26), .int i27, .int i28, .int i29, .int i30, .ref (ma 31), .ref (ma 32), .ref (ma 33), .ref (ma 34), .ref (ma 35), .int i36, .int i37, .ref (ma 38), .ref (ma 39), .ref (ma 40), .long i41])), ((ma 22), .inl (k 1, 1320, .inl (upd (upd (upd (upd (upd (upd (upd (upd (upd (upd fs 1260 0) 1261 (-1)) 1267 0) 1273 0) 1262 (-1)) 1268 0) 1274 0) 1263 (-1)) 1269 0) 1275 0)))] := hD
  refine lv_iinc (v := 3) (lv' := [(2, .int 3), (0, .ref (ma 0)), (1, .int 1260)]) hx hb dX13_starts_52 hl (k := 0) rfl (by decide) (by decide) rfl (fun ls hl => ?_)
  refine lv_goto (tgt := 11) hx hb dX13_starts_55 (by decide) ?_
  refine lv_iload_n hx hb dX13_starts_11 rfl (lv_at hl 0 rfl) ?_
  refine lv_bipush (v := 6) hx hb dX13_starts_12 (by decide) ?_
  refine lv_icmp_ge (tgt := 58) hx hb dX13_starts_14 (by decide) (fun h9 => absurd h9 (by decide)) (fun cx4 => ?_)
  refine lv_aload_n hx hb dX13_starts_17 rfl (lv_at hl 1 rfl) ?_
  refine va_get (ci := 10) (v := .ref (ma 22)) (C := RX13) (T := TX13) (N := 42) hx hb hts inX13 hown hK hP 0 rfl rfl 22 (by decide) lf126 (fun _ h9 => h9) rfl dX13_starts_18 ?_
  refine lv_iload_n hx hb dX13_starts_21 rfl (lv_at hl 2 rfl) ?_
  refine lv_iconst (v := 1) hx hb dX13_starts_22 (by decide) ?_
  refine lv_iadd hx hb dX13_starts_23 ?_
  refine p_topI (v := 1261) (by decide) ?_
  refine lv_iload_n hx hb dX13_starts_24 rfl (lv_at hl 0 rfl) ?_
  refine lv_iadd hx hb dX13_starts_25 ?_
  refine p_topI (v := 1264) (by decide) ?_
  refine lv_iconst (v := (-1)) hx hb dX13_starts_26 (by decide) ?_
  refine va_iast hx hb hK hP hD hS 1 1 rfl rfl (show ¬ (_ ∨ _) by decide) dX13_starts_27 (fun H locs hP hD hS => ?_)
  have hP : va_P D vwCl [((ma 0), .inr (10, [.int i0, .ref (ma 1), .int i2, .int i3, .ref (ma 4), .ref (ma 5), .ref (ma 6), .int i7, .int i8, .ref (ma 9), .ref (ma 10), .ref (ma 11), .ref (ma 12), .int i13, .ref (ma 14), .ref (ma 15), .int i16, .int i17, .ref (ma 18), .ref (ma 19), .ref (ma 20), .ref (ma 21), .ref (ma 22), .int i23, .ref (ma 24), .int i25, .ref (ma 26), .int i27, .int i28, .int i29, .int i30, .ref (ma 31), .ref (ma 32), .ref (ma 33), .ref (ma 34), .ref (ma 35), .int i36, .int i37, .ref (ma 38), .ref (ma 39), .ref (ma 40), .long i41])), ((ma 22), .inl (k 1, 1320, .inl (upd (upd (upd (upd (upd (upd (upd (upd (upd (upd (upd fs 1260 0) 1261 (-1)) 1267 0) 1273 0) 1262 (-1)) 1268 0) 1274 0) 1263 (-1)) 1269 0) 1275 0) 1264 (-1))))] H := hP
  have hD : va_D A [((ma 0), .inr (10, [.int i0, .ref (ma 1), .int i2, .int i3, .ref (ma 4), .ref (ma 5), .ref (ma 6), .int i7, .int i8, .ref (ma 9), .ref (ma 10), .ref (ma 11), .ref (ma 12), .int i13, .ref (ma 14), .ref (ma 15), .int i16, .int i17, .ref (ma 18), .ref (ma 19), .ref (ma 20), .ref (ma 21), .ref (ma 22), .int i23, .ref (ma 24), .int i25, .ref (ma 26), .int i27, .int i28, .int i29, .int i30, .ref (ma 31), .ref (ma 32), .ref (ma 33), .ref (ma 34), .ref (ma 35), .int i36, .int i37, .ref (ma 38), .ref (ma 39), .ref (ma 40), .long i41])), ((ma 22), .inl (k 1, 1320, .inl (upd (upd (upd (upd (upd (upd (upd (upd (upd (upd (upd fs 1260 0) 1261 (-1)) 1267 0) 1273 0) 1262 (-1)) 1268 0) 1274 0) 1263 (-1)) 1269 0) 1275 0) 1264 (-1))))] := hD
  refine lv_aload_n hx hb dX13_starts_28 rfl (lv_at hl 1 rfl) ?_
  refine va_get (ci := 10) (v := .ref (ma 22)) (C := RX13) (T := TX13) (N := 42) hx hb hts inX13 hown hK hP 0 rfl rfl 22 (by decide) lf126 (fun _ h9 => h9) rfl dX13_starts_29 ?_
  refine lv_iload_n hx hb dX13_starts_32 rfl (lv_at hl 2 rfl) ?_
  refine lv_bipush (v := 7) hx hb dX13_starts_33 (by decide) ?_
  refine lv_iadd hx hb dX13_starts_35 ?_
  refine p_topI (v := 1267) (by decide) ?_
  refine lv_iload_n hx hb dX13_starts_36 rfl (lv_at hl 0 rfl) ?_
  refine lv_iadd hx hb dX13_starts_37 ?_
  refine p_topI (v := 1270) (by decide) ?_
  refine lv_iconst (v := 0) hx hb dX13_starts_38 (by decide) ?_
  refine va_iast hx hb hK hP hD hS 1 1 rfl rfl (show ¬ (_ ∨ _) by decide) dX13_starts_39 (fun H locs hP hD hS => ?_)
  have hP : va_P D vwCl [((ma 0), .inr (10, [.int i0, .ref (ma 1), .int i2, .int i3, .ref (ma 4), .ref (ma 5), .ref (ma 6), .int i7, .int i8, .ref (ma 9), .ref (ma 10), .ref (ma 11), .ref (ma 12), .int i13, .ref (ma 14), .ref (ma 15), .int i16, .int i17, .ref (ma 18), .ref (ma 19), .ref (ma 20), .ref (ma 21), .ref (ma 22), .int i23, .ref (ma 24), .int i25, .ref (ma 26), .int i27, .int i28, .int i29, .int i30, .ref (ma 31), .ref (ma 32), .ref (ma 33), .ref (ma 34), .ref (ma 35), .int i36, .int i37, .ref (ma 38), .ref (ma 39), .ref (ma 40), .long i41])), ((ma 22), .inl (k 1, 1320, .inl (upd (upd (upd (upd (upd (upd (upd (upd (upd (upd (upd (upd fs 1260 0) 1261 (-1)) 1267 0) 1273 0) 1262 (-1)) 1268 0) 1274 0) 1263 (-1)) 1269 0) 1275 0) 1264 (-1)) 1270 0)))] H := hP
  have hD : va_D A [((ma 0), .inr (10, [.int i0, .ref (ma 1), .int i2, .int i3, .ref (ma 4), .ref (ma 5), .ref (ma 6), .int i7, .int i8, .ref (ma 9), .ref (ma 10), .ref (ma 11), .ref (ma 12), .int i13, .ref (ma 14), .ref (ma 15), .int i16, .int i17, .ref (ma 18), .ref (ma 19), .ref (ma 20), .ref (ma 21), .ref (ma 22), .int i23, .ref (ma 24), .int i25, .ref (ma 26), .int i27, .int i28, .int i29, .int i30, .ref (ma 31), .ref (ma 32), .ref (ma 33), .ref (ma 34), .ref (ma 35), .int i36, .int i37, .ref (ma 38), .ref (ma 39), .ref (ma 40), .long i41])), ((ma 22), .inl (k 1, 1320, .inl (upd (upd (upd (upd (upd (upd (upd (upd (upd (upd (upd (upd fs 1260 0) 1261 (-1)) 1267 0) 1273 0) 1262 (-1)) 1268 0) 1274 0) 1263 (-1)) 1269 0) 1275 0) 1264 (-1)) 1270 0)))] := hD
  refine lv_aload_n hx hb dX13_starts_40 rfl (lv_at hl 1 rfl) ?_
  refine va_get (ci := 10) (v := .ref (ma 22)) (C := RX13) (T := TX13) (N := 42) hx hb hts inX13 hown hK hP 0 rfl rfl 22 (by decide) lf126 (fun _ h9 => h9) rfl dX13_starts_41 ?_
  refine lv_iload_n hx hb dX13_starts_44 rfl (lv_at hl 2 rfl) ?_
  refine lv_bipush (v := 13) hx hb dX13_starts_45 (by decide) ?_
  refine lv_iadd hx hb dX13_starts_47 ?_
  refine p_topI (v := 1273) (by decide) ?_
  refine lv_iload_n hx hb dX13_starts_48 rfl (lv_at hl 0 rfl) ?_
  refine lv_iadd hx hb dX13_starts_49 ?_
  refine p_topI (v := 1276) (by decide) ?_
  refine lv_iconst (v := 0) hx hb dX13_starts_50 (by decide) ?_
  refine va_iast hx hb hK hP hD hS 1 1 rfl rfl (show ¬ (_ ∨ _) by decide) dX13_starts_51 (fun H locs hP hD hS => ?_)
  have hP : va_P D vwCl [((ma 0), .inr (10, [.int i0, .ref (ma 1), .int i2, .int i3, .ref (ma 4), .ref (ma 5), .ref (ma 6), .int i7, .int i8, .ref (ma 9), .ref (ma 10), .ref (ma 11), .ref (ma 12), .int i13, .ref (ma 14), .ref (ma 15), .int i16, .int i17, .ref (ma 18), .ref (ma 19), .ref (ma 20), .ref (ma 21), .ref (ma 22), .int i23, .ref (ma 24), .int i25, .ref (ma 26), .int i27, .int i28, .int i29, .int i30, .ref (ma 31), .ref (ma 32), .ref (ma 33), .ref (ma 34), .ref (ma 35), .int i36, .int i37, .ref (ma 38), .ref (ma 39), .ref (ma 40), .long i41])), ((ma 22), .inl (k 1, 1320, .inl (upd (upd (upd (upd (upd (upd (upd (upd (upd (upd (upd (upd (upd fs 1260 0) 1261 (-1)) 1267 0) 1273 0) 1262 (-1)) 1268 0) 1274 0) 1263 (-1)) 1269 0) 1275 0) 1264 (-1)) 1270 0) 1276 0)))] H := hP
  have hD : va_D A [((ma 0), .inr (10, [.int i0, .ref (ma 1), .int i2, .int i3, .ref (ma 4), .ref (ma 5), .ref (ma 6), .int i7, .int i8, .ref (ma 9), .ref (ma 10), .ref (ma 11), .ref (ma 12), .int i13, .ref (ma 14), .ref (ma 15), .int i16, .int i17, .ref (ma 18), .ref (ma 19), .ref (ma 20), .ref (ma 21), .ref (ma 22), .int i23, .ref (ma 24), .int i25, .ref (ma 26), .int i27, .int i28, .int i29, .int i30, .ref (ma 31), .ref (ma 32), .ref (ma 33), .ref (ma 34), .ref (ma 35), .int i36, .int i37, .ref (ma 38), .ref (ma 39), .ref (ma 40), .long i41])), ((ma 22), .inl (k 1, 1320, .inl (upd (upd (upd (upd (upd (upd (upd (upd (upd (upd (upd (upd (upd fs 1260 0) 1261 (-1)) 1267 0) 1273 0) 1262 (-1)) 1268 0) 1274 0) 1263 (-1)) 1269 0) 1275 0) 1264 (-1)) 1270 0) 1276 0)))] := hD
  refine lv_iinc (v := 4) (lv' := [(2, .int 4), (0, .ref (ma 0)), (1, .int 1260)]) hx hb dX13_starts_52 hl (k := 0) rfl (by decide) (by decide) rfl (fun ls hl => ?_)
  refine lv_goto (tgt := 11) hx hb dX13_starts_55 (by decide) ?_
  refine lv_iload_n hx hb dX13_starts_11 rfl (lv_at hl 0 rfl) ?_
  refine lv_bipush (v := 6) hx hb dX13_starts_12 (by decide) ?_
  refine lv_icmp_ge (tgt := 58) hx hb dX13_starts_14 (by decide) (fun h9 => absurd h9 (by decide)) (fun cx5 => ?_)
  refine lv_aload_n hx hb dX13_starts_17 rfl (lv_at hl 1 rfl) ?_
  refine va_get (ci := 10) (v := .ref (ma 22)) (C := RX13) (T := TX13) (N := 42) hx hb hts inX13 hown hK hP 0 rfl rfl 22 (by decide) lf126 (fun _ h9 => h9) rfl dX13_starts_18 ?_
  refine lv_iload_n hx hb dX13_starts_21 rfl (lv_at hl 2 rfl) ?_
  refine lv_iconst (v := 1) hx hb dX13_starts_22 (by decide) ?_
  refine lv_iadd hx hb dX13_starts_23 ?_
  refine p_topI (v := 1261) (by decide) ?_
  refine lv_iload_n hx hb dX13_starts_24 rfl (lv_at hl 0 rfl) ?_
  refine lv_iadd hx hb dX13_starts_25 ?_
  refine p_topI (v := 1265) (by decide) ?_
  refine lv_iconst (v := (-1)) hx hb dX13_starts_26 (by decide) ?_
  refine va_iast hx hb hK hP hD hS 1 1 rfl rfl (show ¬ (_ ∨ _) by decide) dX13_starts_27 (fun H locs hP hD hS => ?_)
  have hP : va_P D vwCl [((ma 0), .inr (10, [.int i0, .ref (ma 1), .int i2, .int i3, .ref (ma 4), .ref (ma 5), .ref (ma 6), .int i7, .int i8, .ref (ma 9), .ref (ma 10), .ref (ma 11), .ref (ma 12), .int i13, .ref (ma 14), .ref (ma 15), .int i16, .int i17, .ref (ma 18), .ref (ma 19), .ref (ma 20), .ref (ma 21), .ref (ma 22), .int i23, .ref (ma 24), .int i25, .ref (ma 26), .int i27, .int i28, .int i29, .int i30, .ref (ma 31), .ref (ma 32), .ref (ma 33), .ref (ma 34), .ref (ma 35), .int i36, .int i37, .ref (ma 38), .ref (ma 39), .ref (ma 40), .long i41])), ((ma 22), .inl (k 1, 1320, .inl (upd (upd (upd (upd (upd (upd (upd (upd (upd (upd (upd (upd (upd (upd fs 1260 0) 1261 (-1)) 1267 0) 1273 0) 1262 (-1)) 1268 0) 1274 0) 1263 (-1)) 1269 0) 1275 0) 1264 (-1)) 1270 0) 1276 0) 1265 (-1))))] H := hP
  have hD : va_D A [((ma 0), .inr (10, [.int i0, .ref (ma 1), .int i2, .int i3, .ref (ma 4), .ref (ma 5), .ref (ma 6), .int i7, .int i8, .ref (ma 9), .ref (ma 10), .ref (ma 11), .ref (ma 12), .int i13, .ref (ma 14), .ref (ma 15), .int i16, .int i17, .ref (ma 18), .ref (ma 19), .ref (ma 20), .ref (ma 21), .ref (ma 22), .int i23, .ref (ma 24), .int i25, .ref (ma 26), .int i27, .int i28, .int i29, .int i30, .ref (ma 31), .ref (ma 32), .ref (ma 33), .ref (ma 34), .ref (ma 35), .int i36, .int i37, .ref (ma 38), .ref (ma 39), .ref (ma 40), .long i41])), ((ma 22), .inl (k 1, 1320, .inl (upd (upd (upd (upd (upd (upd (upd (upd (upd (upd (upd (upd (upd (upd fs 1260 0) 1261 (-1)) 1267 0) 1273 0) 1262 (-1)) 1268 0) 1274 0) 1263 (-1)) 1269 0) 1275 0) 1264 (-1)) 1270 0) 1276 0) 1265 (-1))))] := hD
  refine lv_aload_n hx hb dX13_starts_28 rfl (lv_at hl 1 rfl) ?_
  refine va_get (ci := 10) (v := .ref (ma 22)) (C := RX13) (T := TX13) (N := 42) hx hb hts inX13 hown hK hP 0 rfl rfl 22 (by decide) lf126 (fun _ h9 => h9) rfl dX13_starts_29 ?_
  refine lv_iload_n hx hb dX13_starts_32 rfl (lv_at hl 2 rfl) ?_
  refine lv_bipush (v := 7) hx hb dX13_starts_33 (by decide) ?_
  refine lv_iadd hx hb dX13_starts_35 ?_
  refine p_topI (v := 1267) (by decide) ?_
  refine lv_iload_n hx hb dX13_starts_36 rfl (lv_at hl 0 rfl) ?_
  refine lv_iadd hx hb dX13_starts_37 ?_
  refine p_topI (v := 1271) (by decide) ?_
  refine lv_iconst (v := 0) hx hb dX13_starts_38 (by decide) ?_
  refine va_iast hx hb hK hP hD hS 1 1 rfl rfl (show ¬ (_ ∨ _) by decide) dX13_starts_39 (fun H locs hP hD hS => ?_)
  have hP : va_P D vwCl [((ma 0), .inr (10, [.int i0, .ref (ma 1), .int i2, .int i3, .ref (ma 4), .ref (ma 5), .ref (ma 6), .int i7, .int i8, .ref (ma 9), .ref (ma 10), .ref (ma 11), .ref (ma 12), .int i13, .ref (ma 14), .ref (ma 15), .int i16, .int i17, .ref (ma 18), .ref (ma 19), .ref (ma 20), .ref (ma 21), .ref (ma 22), .int i23, .ref (ma 24), .int i25, .ref (ma 26), .int i27, .int i28, .int i29, .int i30, .ref (ma 31), .ref (ma 32), .ref (ma 33), .ref (ma 34), .ref (ma 35), .int i36, .int i37, .ref (ma 38), .ref (ma 39), .ref (ma 40), .long i41])), ((ma 22), .inl (k 1, 1320, .inl (upd (upd (upd (upd (upd (upd (upd (upd (upd (upd (upd (upd (upd (upd (upd fs 1260 0) 1261 (-1)) 1267 0) 1273 0) 1262 (-1)) 1268 0) 1274 0) 1263 (-1)) 1269 0) 1275 0) 1264 (-1)) 1270 0) 1276 0) 1265 (-1)) 1271 0)))] H := hP
  have hD : va_D A [((ma 0), .inr (10, [.int i0, .ref (ma 1), .int i2, .int i3, .ref (ma 4), .ref (ma 5), .ref (ma 6), .int i7, .int i8, .ref (ma 9), .ref (ma 10), .ref (ma 11), .ref (ma 12), .int i13, .ref (ma 14), .ref (ma 15), .int i16, .int i17, .ref (ma 18), .ref (ma 19), .ref (ma 20), .ref (ma 21), .ref (ma 22), .int i23, .ref (ma 24), .int i25, .ref (ma 26), .int i27, .int i28, .int i29, .int i30, .ref (ma 31), .ref (ma 32), .ref (ma 33), .ref (ma 34), .ref (ma 35), .int i36, .int i37, .ref (ma 38), .ref (ma 39), .ref (ma 40), .long i41])), ((ma 22), .inl (k 1, 1320, .inl (upd (upd (upd (upd (upd (upd (upd (upd (upd (upd (upd (upd (upd (upd (upd fs 1260 0) 1261 (-1)) 1267 0) 1273 0) 1262 (-1)) 1268 0) 1274 0) 1263 (-1)) 1269 0) 1275 0) 1264 (-1)) 1270 0) 1276 0) 1265 (-1)) 1271 0)))] := hD
  refine lv_aload_n hx hb dX13_starts_40 rfl (lv_at hl 1 rfl) ?_
  refine va_get (ci := 10) (v := .ref (ma 22)) (C := RX13) (T := TX13) (N := 42) hx hb hts inX13 hown hK hP 0 rfl rfl 22 (by decide) lf126 (fun _ h9 => h9) rfl dX13_starts_41 ?_
  refine lv_iload_n hx hb dX13_starts_44 rfl (lv_at hl 2 rfl) ?_
  refine lv_bipush (v := 13) hx hb dX13_starts_45 (by decide) ?_
  refine lv_iadd hx hb dX13_starts_47 ?_
  refine p_topI (v := 1273) (by decide) ?_
  refine lv_iload_n hx hb dX13_starts_48 rfl (lv_at hl 0 rfl) ?_
  refine lv_iadd hx hb dX13_starts_49 ?_
  refine p_topI (v := 1277) (by decide) ?_
  refine lv_iconst (v := 0) hx hb dX13_starts_50 (by decide) ?_
  refine va_iast hx hb hK hP hD hS 1 1 rfl rfl (show ¬ (_ ∨ _) by decide) dX13_starts_51 (fun H locs hP hD hS => ?_)
  have hP : va_P D vwCl [((ma 0), .inr (10, [.int i0, .ref (ma 1), .int i2, .int i3, .ref (ma 4), .ref (ma 5), .ref (ma 6), .int i7, .int i8, .ref (ma 9), .ref (ma 10), .ref (ma 11), .ref (ma 12), .int i13, .ref (ma 14), .ref (ma 15), .int i16, .int i17, .ref (ma 18), .ref (ma 19), .ref (ma 20), .ref (ma 21), .ref (ma 22), .int i23, .ref (ma 24), .int i25, .ref (ma 26), .int i27, .int i28, .int i29, .int i30, .ref (ma 31), .ref (ma 32), .ref (ma 33), .ref (ma 34), .ref (ma 35), .int i36, .int i37, .ref (ma 38), .ref (ma 39), .ref (ma 40), .long i41])), ((ma 22), .inl (k 1, 1320, .inl (upd (upd (upd (upd (upd (upd (upd (upd (upd (upd (upd (upd (upd (upd (upd (upd fs 1260 0) 1261 (-1)) 1267 0) 1273 0) 1262 (-1)) 1268 0) 1274 0) 1263 (-1)) 1269 0) 1275 0) 1264 (-1)) 1270 0) 1276 0) 1265 (-1)) 1271 0) 1277 0)))] H := hP
  have hD : va_D A [((ma 0), .inr (10, [.int i0, .ref (ma 1), .int i2, .int i3, .ref (ma 4), .ref (ma 5), .ref (ma 6), .int i7, .int i8, .ref (ma 9), .ref (ma 10), .ref (ma 11), .ref (ma 12), .int i13, .ref (ma 14), .ref (ma 15), .int i16, .int i17, .ref (ma 18), .ref (ma 19), .ref (ma 20), .ref (ma 21), .ref (ma 22), .int i23, .ref (ma 24), .int i25, .ref (ma 26), .int i27, .int i28, .int i29, .int i30, .ref (ma 31), .ref (ma 32), .ref (ma 33), .ref (ma 34), .ref (ma 35), .int i36, .int i37, .ref (ma 38), .ref (ma 39), .ref (ma 40), .long i41])), ((ma 22), .inl (k 1, 1320, .inl (upd (upd (upd (upd (upd (upd (upd (upd (upd (upd (upd (upd (upd (upd (upd (upd fs 1260 0) 1261 (-1)) 1267 0) 1273 0) 1262 (-1)) 1268 0) 1274 0) 1263 (-1)) 1269 0) 1275 0) 1264 (-1)) 1270 0) 1276 0) 1265 (-1)) 1271 0) 1277 0)))] := hD
  refine lv_iinc (v := 5) (lv' := [(2, .int 5), (0, .ref (ma 0)), (1, .int 1260)]) hx hb dX13_starts_52 hl (k := 0) rfl (by decide) (by decide) rfl (fun ls hl => ?_)
  refine lv_goto (tgt := 11) hx hb dX13_starts_55 (by decide) ?_
  refine lv_iload_n hx hb dX13_starts_11 rfl (lv_at hl 0 rfl) ?_
  refine lv_bipush (v := 6) hx hb dX13_starts_12 (by decide) ?_
  refine lv_icmp_ge (tgt := 58) hx hb dX13_starts_14 (by decide) (fun h9 => absurd h9 (by decide)) (fun cx6 => ?_)
  refine lv_aload_n hx hb dX13_starts_17 rfl (lv_at hl 1 rfl) ?_
  refine va_get (ci := 10) (v := .ref (ma 22)) (C := RX13) (T := TX13) (N := 42) hx hb hts inX13 hown hK hP 0 rfl rfl 22 (by decide) lf126 (fun _ h9 => h9) rfl dX13_starts_18 ?_
  refine lv_iload_n hx hb dX13_starts_21 rfl (lv_at hl 2 rfl) ?_
  refine lv_iconst (v := 1) hx hb dX13_starts_22 (by decide) ?_
  refine lv_iadd hx hb dX13_starts_23 ?_
  refine p_topI (v := 1261) (by decide) ?_
  refine lv_iload_n hx hb dX13_starts_24 rfl (lv_at hl 0 rfl) ?_
  refine lv_iadd hx hb dX13_starts_25 ?_
  refine p_topI (v := 1266) (by decide) ?_
  refine lv_iconst (v := (-1)) hx hb dX13_starts_26 (by decide) ?_
  refine va_iast hx hb hK hP hD hS 1 1 rfl rfl (show ¬ (_ ∨ _) by decide) dX13_starts_27 (fun H locs hP hD hS => ?_)
  have hP : va_P D vwCl [((ma 0), .inr (10, [.int i0, .ref (ma 1), .int i2, .int i3, .ref (ma 4), .ref (ma 5), .ref (ma 6), .int i7, .int i8, .ref (ma 9), .ref (ma 10), .ref (ma 11), .ref (ma 12), .int i13, .ref (ma 14), .ref (ma 15), .int i16, .int i17, .ref (ma 18), .ref (ma 19), .ref (ma 20), .ref (ma 21), .ref (ma 22), .int i23, .ref (ma 24), .int i25, .ref (ma 26), .int i27, .int i28, .int i29, .int i30, .ref (ma 31), .ref (ma 32), .ref (ma 33), .ref (ma 34), .ref (ma 35), .int i36, .int i37, .ref (ma 38), .ref (ma 39), .ref (ma 40), .long i41])), ((ma 22), .inl (k 1, 1320, .inl (upd (upd (upd (upd (upd (upd (upd (upd (upd (upd (upd (upd (upd (upd (upd (upd (upd fs 1260 0) 1261 (-1)) 1267 0) 1273 0) 1262 (-1)) 1268 0) 1274 0) 1263 (-1)) 1269 0) 1275 0) 1264 (-1)) 1270 0) 1276 0) 1265 (-1)) 1271 0) 1277 0) 1266 (-1))))] H := hP
  have hD : va_D A [((ma 0), .inr (10, [.int i0, .ref (ma 1), .int i2, .int i3, .ref (ma 4), .ref (ma 5), .ref (ma 6), .int i7, .int i8, .ref (ma 9), .ref (ma 10), .ref (ma 11), .ref (ma 12), .int i13, .ref (ma 14), .ref (ma 15), .int i16, .int i17, .ref (ma 18), .ref (ma 19), .ref (ma 20), .ref (ma 21), .ref (ma 22), .int i23, .ref (ma 24), .int i25, .ref (ma 26), .int i27, .int i28, .int i29, .int i30, .ref (ma 31), .ref (ma 32), .ref (ma 33), .ref (ma 34), .ref (ma 35), .int i36, .int i37, .ref (ma 38), .ref (ma 39), .ref (ma 40), .long i41])), ((ma 22), .inl (k 1, 1320, .inl (upd (upd (upd (upd (upd (upd (upd (upd (upd (upd (upd (upd (upd (upd (upd (upd (upd fs 1260 0) 1261 (-1)) 1267 0) 1273 0) 1262 (-1)) 1268 0) 1274 0) 1263 (-1)) 1269 0) 1275 0) 1264 (-1)) 1270 0) 1276 0) 1265 (-1)) 1271 0) 1277 0) 1266 (-1))))] := hD
  refine lv_aload_n hx hb dX13_starts_28 rfl (lv_at hl 1 rfl) ?_
  refine va_get (ci := 10) (v := .ref (ma 22)) (C := RX13) (T := TX13) (N := 42) hx hb hts inX13 hown hK hP 0 rfl rfl 22 (by decide) lf126 (fun _ h9 => h9) rfl dX13_starts_29 ?_
  refine lv_iload_n hx hb dX13_starts_32 rfl (lv_at hl 2 rfl) ?_
  refine lv_bipush (v := 7) hx hb dX13_starts_33 (by decide) ?_
  refine lv_iadd hx hb dX13_starts_35 ?_
  refine p_topI (v := 1267) (by decide) ?_
  refine lv_iload_n hx hb dX13_starts_36 rfl (lv_at hl 0 rfl) ?_
  refine lv_iadd hx hb dX13_starts_37 ?_
  refine p_topI (v := 1272) (by decide) ?_
  refine lv_iconst (v := 0) hx hb dX13_starts_38 (by decide) ?_
  refine va_iast hx hb hK hP hD hS 1 1 rfl rfl (show ¬ (_ ∨ _) by decide) dX13_starts_39 (fun H locs hP hD hS => ?_)
  have hP : va_P D vwCl [((ma 0), .inr (10, [.int i0, .ref (ma 1), .int i2, .int i3, .ref (ma 4), .ref (ma 5), .ref (ma 6), .int i7, .int i8, .ref (ma 9), .ref (ma 10), .ref (ma 11), .ref (ma 12), .int i13, .ref (ma 14), .ref (ma 15), .int i16, .int i17, .ref (ma 18), .ref (ma 19), .ref (ma 20), .ref (ma 21), .ref (ma 22), .int i23, .ref (ma 24), .int i25, .ref (ma 26), .int i27, .int i28, .int i29, .int i30, .ref (ma 31), .ref (ma 32), .ref (ma 33), .ref (ma 34), .ref (ma 35), .int i36, .int i37, .ref (ma 38), .ref (ma 39), .ref (ma 40), .long i41])), ((ma 22), .inl (k 1, 1320, .inl (upd (upd (upd (upd (upd (upd (upd (upd (upd (upd (upd (upd (upd (upd (upd (upd (upd (upd fs 1260 0) 1261 (-1)) 1267 0) 1273 0) 1262 (-1)) 1268 0) 1274 0) 1263 (-1)) 1269 0) 1275 0) 1264 (-1)) 1270 0) 1276 0) 1265 (-1)) 1271 0) 1277 0) 1266 (-1)) 1272 0)))] H := hP
  have hD : va_D A [((ma 0), .inr (10, [.int i0, .ref (ma 1), .int i2, .int i3, .ref (ma 4), .ref (ma 5), .ref (ma 6), .int i7, .int i8, .ref (ma 9), .ref (ma 10), .ref (ma 11), .ref (ma 12), .int i13, .ref (ma 14), .ref (ma 15), .int i16, .int i17, .ref (ma 18), .ref (ma 19), .ref (ma 20), .ref (ma 21), .ref (ma 22), .int i23, .ref (ma 24), .int i25, .ref (ma 26), .int i27, .int i28, .int i29, .int i30, .ref (ma 31), .ref (ma 32), .ref (ma 33), .ref (ma 34), .ref (ma 35), .int i36, .int i37, .ref (ma 38), .ref (ma 39), .ref (ma 40), .long i41])), ((ma 22), .inl (k 1, 1320, .inl (upd (upd (upd (upd (upd (upd (upd (upd (upd (upd (upd (upd (upd (upd (upd (upd (upd (upd fs 1260 0) 1261 (-1)) 1267 0) 1273 0) 1262 (-1)) 1268 0) 1274 0) 1263 (-1)) 1269 0) 1275 0) 1264 (-1)) 1270 0) 1276 0) 1265 (-1)) 1271 0) 1277 0) 1266 (-1)) 1272 0)))] := hD
  refine lv_aload_n hx hb dX13_starts_40 rfl (lv_at hl 1 rfl) ?_
  refine va_get (ci := 10) (v := .ref (ma 22)) (C := RX13) (T := TX13) (N := 42) hx hb hts inX13 hown hK hP 0 rfl rfl 22 (by decide) lf126 (fun _ h9 => h9) rfl dX13_starts_41 ?_
  refine lv_iload_n hx hb dX13_starts_44 rfl (lv_at hl 2 rfl) ?_
  refine lv_bipush (v := 13) hx hb dX13_starts_45 (by decide) ?_
  refine lv_iadd hx hb dX13_starts_47 ?_
  refine p_topI (v := 1273) (by decide) ?_
  refine lv_iload_n hx hb dX13_starts_48 rfl (lv_at hl 0 rfl) ?_
  refine lv_iadd hx hb dX13_starts_49 ?_
  refine p_topI (v := 1278) (by decide) ?_
  refine lv_iconst (v := 0) hx hb dX13_starts_50 (by decide) ?_
  refine va_iast hx hb hK hP hD hS 1 1 rfl rfl (show ¬ (_ ∨ _) by decide) dX13_starts_51 (fun H locs hP hD hS => ?_)
  have hP : va_P D vwCl [((ma 0), .inr (10, [.int i0, .ref (ma 1), .int i2, .int i3, .ref (ma 4), .ref (ma 5), .ref (ma 6), .int i7, .int i8, .ref (ma 9), .ref (ma 10), .ref (ma 11), .ref (ma 12), .int i13, .ref (ma 14), .ref (ma 15), .int i16, .int i17, .ref (ma 18), .ref (ma 19), .ref (ma 20), .ref (ma 21), .ref (ma 22), .int i23, .ref (ma 24), .int i25, .ref (ma 26), .int i27, .int i28, .int i29, .int i30, .ref (ma 31), .ref (ma 32), .ref (ma 33), .ref (ma 34), .ref (ma 35), .int i36, .int i37, .ref (ma 38), .ref (ma 39), .ref (ma 40), .long i41])), ((ma 22), .inl (k 1, 1320, .inl (upd (upd (upd (upd (upd (upd (upd (upd (upd (upd (upd (upd (upd (upd (upd (upd (upd (upd (upd fs 1260 0) 1261 (-1)) 1267 0) 1273 0) 1262 (-1)) 1268 0) 1274 0) 1263 (-1)) 1269 0) 1275 0) 1264 (-1)) 1270 0) 1276 0) 1265 (-1)) 1271 0) 1277 0) 1266 (-1)) 1272 0) 1278 0)))] H := hP
  have hD : va_D A [((ma 0), .inr (10, [.int i0, .ref (ma 1), .int i2, .int i3, .ref (ma 4), .ref (ma 5), .ref (ma 6), .int i7, .int i8, .ref (ma 9), .ref (ma 10), .ref (ma 11), .ref (ma 12), .int i13, .ref (ma 14), .ref (ma 15), .int i16, .int i17, .ref (ma 18), .ref (ma 19), .ref (ma 20), .ref (ma 21), .ref (ma 22), .int i23, .ref (ma 24), .int i25, .ref (ma 26), .int i27, .int i28, .int i29, .int i30, .ref (ma 31), .ref (ma 32), .ref (ma 33), .ref (ma 34), .ref (ma 35), .int i36, .int i37, .ref (ma 38), .ref (ma 39), .ref (ma 40), .long i41])), ((ma 22), .inl (k 1, 1320, .inl (upd (upd (upd (upd (upd (upd (upd (upd (upd (upd (upd (upd (upd (upd (upd (upd (upd (upd (upd fs 1260 0) 1261 (-1)) 1267 0) 1273 0) 1262 (-1)) 1268 0) 1274 0) 1263 (-1)) 1269 0) 1275 0) 1264 (-1)) 1270 0) 1276 0) 1265 (-1)) 1271 0) 1277 0) 1266 (-1)) 1272 0) 1278 0)))] := hD
  refine lv_iinc (v := 6) (lv' := [(2, .int 6), (0, .ref (ma 0)), (1, .int 1260)]) hx hb dX13_starts_52 hl (k := 0) rfl (by decide) (by decide) rfl (fun ls hl => ?_)
  refine lv_goto (tgt := 11) hx hb dX13_starts_55 (by decide) ?_
  refine lv_iload_n hx hb dX13_starts_11 rfl (lv_at hl 0 rfl) ?_
  refine lv_bipush (v := 6) hx hb dX13_starts_12 (by decide) ?_
  refine lv_icmp_ge (tgt := 58) hx hb dX13_starts_14 (by decide) (fun cx7 => ?_) (fun h9 => absurd (by decide) h9)
  exact hret _ _ _ _ _ _ (upd (upd (upd (upd (upd (upd (upd (upd (upd (upd (upd (upd (upd (upd (upd (upd (upd (upd (upd fs 1260 0) 1261 (-1)) 1267 0) 1273 0) 1262 (-1)) 1268 0) 1274 0) 1263 (-1)) 1269 0) 1275 0) 1264 (-1)) 1270 0) 1276 0) 1265 (-1)) 1271 0) 1277 0) 1266 (-1)) 1272 0) 1278 0) (by decide) (by decide) dX13_starts_58 hs26 (hP.sub [0, 1] rfl) (hD.sub [0, 1] (by decide) rfl) hS
def pw_m_starts_0 : List Cond := .code yX13_starts cX13_starts 3 none :: ([.fieldLink RX13 126 "RiverVowsModel" "state" "[I"] ++ wsX130)
set_option maxHeartbeats 4000000 in
set_option maxRecDepth 100000 in
theorem c_m_starts_0 (l : Launch) (D : va_G) (k : Nat → ClassId) (sz : Nat) (ma : Nat → Nat) (i0 : Int32) (i2 : Int32) (i3 : Int32) (i7 : Int32) (i8 : Int32) (i13 : Int32) (i16 : Int32) (i17 : Int32) (i23 : Int32) (i25 : Int32) (i27 : Int32) (i28 : Int32) (i29 : Int32) (i30 : Int32) (i36 : Int32) (i37 : Int32) (i41 : Int64) (fs : Nat → Int32)  : pMv l yX13_starts pw_m_starts_0 ({ frames := 0, cells := 0, slots := 0, locals := 0 }) D k [.ref (ma 0), .int 0] [((ma 0), .inr (10, [.int i0, .ref (ma 1), .int i2, .int i3, .ref (ma 4), .ref (ma 5), .ref (ma 6), .int i7, .int i8, .ref (ma 9), .ref (ma 10), .ref (ma 11), .ref (ma 12), .int i13, .ref (ma 14), .ref (ma 15), .int i16, .int i17, .ref (ma 18), .ref (ma 19), .ref (ma 20), .ref (ma 21), .ref (ma 22), .int i23, .ref (ma 24), .int i25, .ref (ma 26), .int i27, .int i28, .int i29, .int i30, .ref (ma 31), .ref (ma 32), .ref (ma 33), .ref (ma 34), .ref (ma 35), .int i36, .int i37, .ref (ma 38), .ref (ma 39), .ref (ma 40), .long i41])), ((ma 22), .inl (k 1, 1320, .inl fs))] sz (S := (Nat → Int32)) (fun u => u 0 = 0) (fun u => [((ma 0), .inr (10, [.int i0, .ref (ma 1), .int i2, .int i3, .ref (ma 4), .ref (ma 5), .ref (ma 6), .int i7, .int i8, .ref (ma 9), .ref (ma 10), .ref (ma 11), .ref (ma 12), .int i13, .ref (ma 14), .ref (ma 15), .int i16, .int i17, .ref (ma 18), .ref (ma 19), .ref (ma 20), .ref (ma 21), .ref (ma 22), .int i23, .ref (ma 24), .int i25, .ref (ma 26), .int i27, .int i28, .int i29, .int i30, .ref (ma 31), .ref (ma 32), .ref (ma 33), .ref (ma 34), .ref (ma 35), .int i36, .int i37, .ref (ma 38), .ref (ma 39), .ref (ma 40), .long i41])), ((ma 22), .inl (k 1, 1320, .inl u))]) 0 0 := by
  refine p_ofv (cc := cX13_starts) (maxL := 3) (by decide) rfl (Nat.le_of_ble_eq_true rfl) ?_
  intro p e s m below meth c hx hb hml hown hts hin hK hN A hA hP hD hS Q hret ls hl
  have hl : lv_has ls 3 [(0, .ref (ma 0)), (1, .int 0)] := hl
  have lf126 := hts (.fieldLink RX13 126 "RiverVowsModel" "state" "[I") (by decide +kernel)
  have inX13 : ∀ w ∈ wsX130, w ∈ pw_m_starts_0 := by decide +kernel
  refine lv_aload_n hx hb dX13_starts_0 rfl (lv_at hl 0 rfl) ?_
  refine va_get (ci := 10) (v := .ref (ma 22)) (C := RX13) (T := TX13) (N := 42) hx hb hts inX13 hown hK hP 0 rfl rfl 22 (by decide) lf126 (fun _ h9 => h9) rfl dX13_starts_1 ?_
  refine lv_iload_n hx hb dX13_starts_4 rfl (lv_at hl 1 rfl) ?_
  refine lv_iconst (v := 0) hx hb dX13_starts_5 (by decide) ?_
  refine lv_iadd hx hb dX13_starts_6 ?_
  refine p_topI (v := 0) (by decide) ?_
  refine lv_iconst (v := 0) hx hb dX13_starts_7 (by decide) ?_
  refine va_iast hx hb hK hP hD hS 1 1 rfl rfl (show ¬ (_ ∨ _) by decide) dX13_starts_8 (fun H locs hP hD hS => ?_)
  have hP : va_P D vwCl [((ma 0), .inr (10, [.int i0, .ref (ma 1), .int i2, .int i3, .ref (ma 4), .ref (ma 5), .ref (ma 6), .int i7, .int i8, .ref (ma 9), .ref (ma 10), .ref (ma 11), .ref (ma 12), .int i13, .ref (ma 14), .ref (ma 15), .int i16, .int i17, .ref (ma 18), .ref (ma 19), .ref (ma 20), .ref (ma 21), .ref (ma 22), .int i23, .ref (ma 24), .int i25, .ref (ma 26), .int i27, .int i28, .int i29, .int i30, .ref (ma 31), .ref (ma 32), .ref (ma 33), .ref (ma 34), .ref (ma 35), .int i36, .int i37, .ref (ma 38), .ref (ma 39), .ref (ma 40), .long i41])), ((ma 22), .inl (k 1, 1320, .inl (upd fs 0 0)))] H := hP
  have hD : va_D A [((ma 0), .inr (10, [.int i0, .ref (ma 1), .int i2, .int i3, .ref (ma 4), .ref (ma 5), .ref (ma 6), .int i7, .int i8, .ref (ma 9), .ref (ma 10), .ref (ma 11), .ref (ma 12), .int i13, .ref (ma 14), .ref (ma 15), .int i16, .int i17, .ref (ma 18), .ref (ma 19), .ref (ma 20), .ref (ma 21), .ref (ma 22), .int i23, .ref (ma 24), .int i25, .ref (ma 26), .int i27, .int i28, .int i29, .int i30, .ref (ma 31), .ref (ma 32), .ref (ma 33), .ref (ma 34), .ref (ma 35), .int i36, .int i37, .ref (ma 38), .ref (ma 39), .ref (ma 40), .long i41])), ((ma 22), .inl (k 1, 1320, .inl (upd fs 0 0)))] := hD
  refine lv_iconst (v := 0) hx hb dX13_starts_9 (by decide) ?_
  refine lv_istore_n (lv' := [(2, .int 0), (0, .ref (ma 0)), (1, .int 0)]) hx hb dX13_starts_10 rfl hl (by decide) rfl (fun ls hl => ?_)
  refine lv_iload_n hx hb dX13_starts_11 rfl (lv_at hl 0 rfl) ?_
  refine lv_bipush (v := 6) hx hb dX13_starts_12 (by decide) ?_
  refine lv_icmp_ge (tgt := 58) hx hb dX13_starts_14 (by decide) (fun h9 => absurd h9 (by decide)) (fun cx1 => ?_)
  refine lv_aload_n hx hb dX13_starts_17 rfl (lv_at hl 1 rfl) ?_
  refine va_get (ci := 10) (v := .ref (ma 22)) (C := RX13) (T := TX13) (N := 42) hx hb hts inX13 hown hK hP 0 rfl rfl 22 (by decide) lf126 (fun _ h9 => h9) rfl dX13_starts_18 ?_
  refine lv_iload_n hx hb dX13_starts_21 rfl (lv_at hl 2 rfl) ?_
  refine lv_iconst (v := 1) hx hb dX13_starts_22 (by decide) ?_
  refine lv_iadd hx hb dX13_starts_23 ?_
  refine p_topI (v := 1) (by decide) ?_
  refine lv_iload_n hx hb dX13_starts_24 rfl (lv_at hl 0 rfl) ?_
  refine lv_iadd hx hb dX13_starts_25 ?_
  refine p_topI (v := 1) (by decide) ?_
  refine lv_iconst (v := (-1)) hx hb dX13_starts_26 (by decide) ?_
  refine va_iast hx hb hK hP hD hS 1 1 rfl rfl (show ¬ (_ ∨ _) by decide) dX13_starts_27 (fun H locs hP hD hS => ?_)
  have hP : va_P D vwCl [((ma 0), .inr (10, [.int i0, .ref (ma 1), .int i2, .int i3, .ref (ma 4), .ref (ma 5), .ref (ma 6), .int i7, .int i8, .ref (ma 9), .ref (ma 10), .ref (ma 11), .ref (ma 12), .int i13, .ref (ma 14), .ref (ma 15), .int i16, .int i17, .ref (ma 18), .ref (ma 19), .ref (ma 20), .ref (ma 21), .ref (ma 22), .int i23, .ref (ma 24), .int i25, .ref (ma 26), .int i27, .int i28, .int i29, .int i30, .ref (ma 31), .ref (ma 32), .ref (ma 33), .ref (ma 34), .ref (ma 35), .int i36, .int i37, .ref (ma 38), .ref (ma 39), .ref (ma 40), .long i41])), ((ma 22), .inl (k 1, 1320, .inl (upd (upd fs 0 0) 1 (-1))))] H := hP
  have hD : va_D A [((ma 0), .inr (10, [.int i0, .ref (ma 1), .int i2, .int i3, .ref (ma 4), .ref (ma 5), .ref (ma 6), .int i7, .int i8, .ref (ma 9), .ref (ma 10), .ref (ma 11), .ref (ma 12), .int i13, .ref (ma 14), .ref (ma 15), .int i16, .int i17, .ref (ma 18), .ref (ma 19), .ref (ma 20), .ref (ma 21), .ref (ma 22), .int i23, .ref (ma 24), .int i25, .ref (ma 26), .int i27, .int i28, .int i29, .int i30, .ref (ma 31), .ref (ma 32), .ref (ma 33), .ref (ma 34), .ref (ma 35), .int i36, .int i37, .ref (ma 38), .ref (ma 39), .ref (ma 40), .long i41])), ((ma 22), .inl (k 1, 1320, .inl (upd (upd fs 0 0) 1 (-1))))] := hD
  refine lv_aload_n hx hb dX13_starts_28 rfl (lv_at hl 1 rfl) ?_
  refine va_get (ci := 10) (v := .ref (ma 22)) (C := RX13) (T := TX13) (N := 42) hx hb hts inX13 hown hK hP 0 rfl rfl 22 (by decide) lf126 (fun _ h9 => h9) rfl dX13_starts_29 ?_
  refine lv_iload_n hx hb dX13_starts_32 rfl (lv_at hl 2 rfl) ?_
  refine lv_bipush (v := 7) hx hb dX13_starts_33 (by decide) ?_
  refine lv_iadd hx hb dX13_starts_35 ?_
  refine p_topI (v := 7) (by decide) ?_
  refine lv_iload_n hx hb dX13_starts_36 rfl (lv_at hl 0 rfl) ?_
  refine lv_iadd hx hb dX13_starts_37 ?_
  refine p_topI (v := 7) (by decide) ?_
  refine lv_iconst (v := 0) hx hb dX13_starts_38 (by decide) ?_
  refine va_iast hx hb hK hP hD hS 1 1 rfl rfl (show ¬ (_ ∨ _) by decide) dX13_starts_39 (fun H locs hP hD hS => ?_)
  have hP : va_P D vwCl [((ma 0), .inr (10, [.int i0, .ref (ma 1), .int i2, .int i3, .ref (ma 4), .ref (ma 5), .ref (ma 6), .int i7, .int i8, .ref (ma 9), .ref (ma 10), .ref (ma 11), .ref (ma 12), .int i13, .ref (ma 14), .ref (ma 15), .int i16, .int i17, .ref (ma 18), .ref (ma 19), .ref (ma 20), .ref (ma 21), .ref (ma 22), .int i23, .ref (ma 24), .int i25, .ref (ma 26), .int i27, .int i28, .int i29, .int i30, .ref (ma 31), .ref (ma 32), .ref (ma 33), .ref (ma 34), .ref (ma 35), .int i36, .int i37, .ref (ma 38), .ref (ma 39), .ref (ma 40), .long i41])), ((ma 22), .inl (k 1, 1320, .inl (upd (upd (upd fs 0 0) 1 (-1)) 7 0)))] H := hP
  have hD : va_D A [((ma 0), .inr (10, [.int i0, .ref (ma 1), .int i2, .int i3, .ref (ma 4), .ref (ma 5), .ref (ma 6), .int i7, .int i8, .ref (ma 9), .ref (ma 10), .ref (ma 11), .ref (ma 12), .int i13, .ref (ma 14), .ref (ma 15), .int i16, .int i17, .ref (ma 18), .ref (ma 19), .ref (ma 20), .ref (ma 21), .ref (ma 22), .int i23, .ref (ma 24), .int i25, .ref (ma 26), .int i27, .int i28, .int i29, .int i30, .ref (ma 31), .ref (ma 32), .ref (ma 33), .ref (ma 34), .ref (ma 35), .int i36, .int i37, .ref (ma 38), .ref (ma 39), .ref (ma 40), .long i41])), ((ma 22), .inl (k 1, 1320, .inl (upd (upd (upd fs 0 0) 1 (-1)) 7 0)))] := hD
  refine lv_aload_n hx hb dX13_starts_40 rfl (lv_at hl 1 rfl) ?_
  refine va_get (ci := 10) (v := .ref (ma 22)) (C := RX13) (T := TX13) (N := 42) hx hb hts inX13 hown hK hP 0 rfl rfl 22 (by decide) lf126 (fun _ h9 => h9) rfl dX13_starts_41 ?_
  refine lv_iload_n hx hb dX13_starts_44 rfl (lv_at hl 2 rfl) ?_
  refine lv_bipush (v := 13) hx hb dX13_starts_45 (by decide) ?_
  refine lv_iadd hx hb dX13_starts_47 ?_
  refine p_topI (v := 13) (by decide) ?_
  refine lv_iload_n hx hb dX13_starts_48 rfl (lv_at hl 0 rfl) ?_
  refine lv_iadd hx hb dX13_starts_49 ?_
  refine p_topI (v := 13) (by decide) ?_
  refine lv_iconst (v := 0) hx hb dX13_starts_50 (by decide) ?_
  refine va_iast hx hb hK hP hD hS 1 1 rfl rfl (show ¬ (_ ∨ _) by decide) dX13_starts_51 (fun H locs hP hD hS => ?_)
  have hP : va_P D vwCl [((ma 0), .inr (10, [.int i0, .ref (ma 1), .int i2, .int i3, .ref (ma 4), .ref (ma 5), .ref (ma 6), .int i7, .int i8, .ref (ma 9), .ref (ma 10), .ref (ma 11), .ref (ma 12), .int i13, .ref (ma 14), .ref (ma 15), .int i16, .int i17, .ref (ma 18), .ref (ma 19), .ref (ma 20), .ref (ma 21), .ref (ma 22), .int i23, .ref (ma 24), .int i25, .ref (ma 26), .int i27, .int i28, .int i29, .int i30, .ref (ma 31), .ref (ma 32), .ref (ma 33), .ref (ma 34), .ref (ma 35), .int i36, .int i37, .ref (ma 38), .ref (ma 39), .ref (ma 40), .long i41])), ((ma 22), .inl (k 1, 1320, .inl (upd (upd (upd (upd fs 0 0) 1 (-1)) 7 0) 13 0)))] H := hP
  have hD : va_D A [((ma 0), .inr (10, [.int i0, .ref (ma 1), .int i2, .int i3, .ref (ma 4), .ref (ma 5), .ref (ma 6), .int i7, .int i8, .ref (ma 9), .ref (ma 10), .ref (ma 11), .ref (ma 12), .int i13, .ref (ma 14), .ref (ma 15), .int i16, .int i17, .ref (ma 18), .ref (ma 19), .ref (ma 20), .ref (ma 21), .ref (ma 22), .int i23, .ref (ma 24), .int i25, .ref (ma 26), .int i27, .int i28, .int i29, .int i30, .ref (ma 31), .ref (ma 32), .ref (ma 33), .ref (ma 34), .ref (ma 35), .int i36, .int i37, .ref (ma 38), .ref (ma 39), .ref (ma 40), .long i41])), ((ma 22), .inl (k 1, 1320, .inl (upd (upd (upd (upd fs 0 0) 1 (-1)) 7 0) 13 0)))] := hD
  refine lv_iinc (v := 1) (lv' := [(2, .int 1), (0, .ref (ma 0)), (1, .int 0)]) hx hb dX13_starts_52 hl (k := 0) rfl (by decide) (by decide) rfl (fun ls hl => ?_)
  refine lv_goto (tgt := 11) hx hb dX13_starts_55 (by decide) ?_
  refine lv_iload_n hx hb dX13_starts_11 rfl (lv_at hl 0 rfl) ?_
  refine lv_bipush (v := 6) hx hb dX13_starts_12 (by decide) ?_
  refine lv_icmp_ge (tgt := 58) hx hb dX13_starts_14 (by decide) (fun h9 => absurd h9 (by decide)) (fun cx2 => ?_)
  refine lv_aload_n hx hb dX13_starts_17 rfl (lv_at hl 1 rfl) ?_
  refine va_get (ci := 10) (v := .ref (ma 22)) (C := RX13) (T := TX13) (N := 42) hx hb hts inX13 hown hK hP 0 rfl rfl 22 (by decide) lf126 (fun _ h9 => h9) rfl dX13_starts_18 ?_
  refine lv_iload_n hx hb dX13_starts_21 rfl (lv_at hl 2 rfl) ?_
  refine lv_iconst (v := 1) hx hb dX13_starts_22 (by decide) ?_
  refine lv_iadd hx hb dX13_starts_23 ?_
  refine p_topI (v := 1) (by decide) ?_
  refine lv_iload_n hx hb dX13_starts_24 rfl (lv_at hl 0 rfl) ?_
  refine lv_iadd hx hb dX13_starts_25 ?_
  refine p_topI (v := 2) (by decide) ?_
  refine lv_iconst (v := (-1)) hx hb dX13_starts_26 (by decide) ?_
  refine va_iast hx hb hK hP hD hS 1 1 rfl rfl (show ¬ (_ ∨ _) by decide) dX13_starts_27 (fun H locs hP hD hS => ?_)
  have hP : va_P D vwCl [((ma 0), .inr (10, [.int i0, .ref (ma 1), .int i2, .int i3, .ref (ma 4), .ref (ma 5), .ref (ma 6), .int i7, .int i8, .ref (ma 9), .ref (ma 10), .ref (ma 11), .ref (ma 12), .int i13, .ref (ma 14), .ref (ma 15), .int i16, .int i17, .ref (ma 18), .ref (ma 19), .ref (ma 20), .ref (ma 21), .ref (ma 22), .int i23, .ref (ma 24), .int i25, .ref (ma 26), .int i27, .int i28, .int i29, .int i30, .ref (ma 31), .ref (ma 32), .ref (ma 33), .ref (ma 34), .ref (ma 35), .int i36, .int i37, .ref (ma 38), .ref (ma 39), .ref (ma 40), .long i41])), ((ma 22), .inl (k 1, 1320, .inl (upd (upd (upd (upd (upd fs 0 0) 1 (-1)) 7 0) 13 0) 2 (-1))))] H := hP
  have hD : va_D A [((ma 0), .inr (10, [.int i0, .ref (ma 1), .int i2, .int i3, .ref (ma 4), .ref (ma 5), .ref (ma 6), .int i7, .int i8, .ref (ma 9), .ref (ma 10), .ref (ma 11), .ref (ma 12), .int i13, .ref (ma 14), .ref (ma 15), .int i16, .int i17, .ref (ma 18), .ref (ma 19), .ref (ma 20), .ref (ma 21), .ref (ma 22), .int i23, .ref (ma 24), .int i25, .ref (ma 26), .int i27, .int i28, .int i29, .int i30, .ref (ma 31), .ref (ma 32), .ref (ma 33), .ref (ma 34), .ref (ma 35), .int i36, .int i37, .ref (ma 38), .ref (ma 39), .ref (ma 40), .long i41])), ((ma 22), .inl (k 1, 1320, .inl (upd (upd (upd (upd (upd fs 0 0) 1 (-1)) 7 0) 13 0) 2 (-1))))] := hD
  refine lv_aload_n hx hb dX13_starts_28 rfl (lv_at hl 1 rfl) ?_
  refine va_get (ci := 10) (v := .ref (ma 22)) (C := RX13) (T := TX13) (N := 42) hx hb hts inX13 hown hK hP 0 rfl rfl 22 (by decide) lf126 (fun _ h9 => h9) rfl dX13_starts_29 ?_
  refine lv_iload_n hx hb dX13_starts_32 rfl (lv_at hl 2 rfl) ?_
  refine lv_bipush (v := 7) hx hb dX13_starts_33 (by decide) ?_
  refine lv_iadd hx hb dX13_starts_35 ?_
  refine p_topI (v := 7) (by decide) ?_
  refine lv_iload_n hx hb dX13_starts_36 rfl (lv_at hl 0 rfl) ?_
  refine lv_iadd hx hb dX13_starts_37 ?_
  refine p_topI (v := 8) (by decide) ?_
  refine lv_iconst (v := 0) hx hb dX13_starts_38 (by decide) ?_
  refine va_iast hx hb hK hP hD hS 1 1 rfl rfl (show ¬ (_ ∨ _) by decide) dX13_starts_39 (fun H locs hP hD hS => ?_)
  have hP : va_P D vwCl [((ma 0), .inr (10, [.int i0, .ref (ma 1), .int i2, .int i3, .ref (ma 4), .ref (ma 5), .ref (ma 6), .int i7, .int i8, .ref (ma 9), .ref (ma 10), .ref (ma 11), .ref (ma 12), .int i13, .ref (ma 14), .ref (ma 15), .int i16, .int i17, .ref (ma 18), .ref (ma 19), .ref (ma 20), .ref (ma 21), .ref (ma 22), .int i23, .ref (ma 24), .int i25, .ref (ma 26), .int i27, .int i28, .int i29, .int i30, .ref (ma 31), .ref (ma 32), .ref (ma 33), .ref (ma 34), .ref (ma 35), .int i36, .int i37, .ref (ma 38), .ref (ma 39), .ref (ma 40), .long i41])), ((ma 22), .inl (k 1, 1320, .inl (upd (upd (upd (upd (upd (upd fs 0 0) 1 (-1)) 7 0) 13 0) 2 (-1)) 8 0)))] H := hP
  have hD : va_D A [((ma 0), .inr (10, [.int i0, .ref (ma 1), .int i2, .int i3, .ref (ma 4), .ref (ma 5), .ref (ma 6), .int i7, .int i8, .ref (ma 9), .ref (ma 10), .ref (ma 11), .ref (ma 12), .int i13, .ref (ma 14), .ref (ma 15), .int i16, .int i17, .ref (ma 18), .ref (ma 19), .ref (ma 20), .ref (ma 21), .ref (ma 22), .int i23, .ref (ma 24), .int i25, .ref (ma 26), .int i27, .int i28, .int i29, .int i30, .ref (ma 31), .ref (ma 32), .ref (ma 33), .ref (ma 34), .ref (ma 35), .int i36, .int i37, .ref (ma 38), .ref (ma 39), .ref (ma 40), .long i41])), ((ma 22), .inl (k 1, 1320, .inl (upd (upd (upd (upd (upd (upd fs 0 0) 1 (-1)) 7 0) 13 0) 2 (-1)) 8 0)))] := hD
  refine lv_aload_n hx hb dX13_starts_40 rfl (lv_at hl 1 rfl) ?_
  refine va_get (ci := 10) (v := .ref (ma 22)) (C := RX13) (T := TX13) (N := 42) hx hb hts inX13 hown hK hP 0 rfl rfl 22 (by decide) lf126 (fun _ h9 => h9) rfl dX13_starts_41 ?_
  refine lv_iload_n hx hb dX13_starts_44 rfl (lv_at hl 2 rfl) ?_
  refine lv_bipush (v := 13) hx hb dX13_starts_45 (by decide) ?_
  refine lv_iadd hx hb dX13_starts_47 ?_
  refine p_topI (v := 13) (by decide) ?_
  refine lv_iload_n hx hb dX13_starts_48 rfl (lv_at hl 0 rfl) ?_
  refine lv_iadd hx hb dX13_starts_49 ?_
  refine p_topI (v := 14) (by decide) ?_
  refine lv_iconst (v := 0) hx hb dX13_starts_50 (by decide) ?_
  refine va_iast hx hb hK hP hD hS 1 1 rfl rfl (show ¬ (_ ∨ _) by decide) dX13_starts_51 (fun H locs hP hD hS => ?_)
  have hP : va_P D vwCl [((ma 0), .inr (10, [.int i0, .ref (ma 1), .int i2, .int i3, .ref (ma 4), .ref (ma 5), .ref (ma 6), .int i7, .int i8, .ref (ma 9), .ref (ma 10), .ref (ma 11), .ref (ma 12), .int i13, .ref (ma 14), .ref (ma 15), .int i16, .int i17, .ref (ma 18), .ref (ma 19), .ref (ma 20), .ref (ma 21), .ref (ma 22), .int i23, .ref (ma 24), .int i25, .ref (ma 26), .int i27, .int i28, .int i29, .int i30, .ref (ma 31), .ref (ma 32), .ref (ma 33), .ref (ma 34), .ref (ma 35), .int i36, .int i37, .ref (ma 38), .ref (ma 39), .ref (ma 40), .long i41])), ((ma 22), .inl (k 1, 1320, .inl (upd (upd (upd (upd (upd (upd (upd fs 0 0) 1 (-1)) 7 0) 13 0) 2 (-1)) 8 0) 14 0)))] H := hP
  have hD : va_D A [((ma 0), .inr (10, [.int i0, .ref (ma 1), .int i2, .int i3, .ref (ma 4), .ref (ma 5), .ref (ma 6), .int i7, .int i8, .ref (ma 9), .ref (ma 10), .ref (ma 11), .ref (ma 12), .int i13, .ref (ma 14), .ref (ma 15), .int i16, .int i17, .ref (ma 18), .ref (ma 19), .ref (ma 20), .ref (ma 21), .ref (ma 22), .int i23, .ref (ma 24), .int i25, .ref (ma 26), .int i27, .int i28, .int i29, .int i30, .ref (ma 31), .ref (ma 32), .ref (ma 33), .ref (ma 34), .ref (ma 35), .int i36, .int i37, .ref (ma 38), .ref (ma 39), .ref (ma 40), .long i41])), ((ma 22), .inl (k 1, 1320, .inl (upd (upd (upd (upd (upd (upd (upd fs 0 0) 1 (-1)) 7 0) 13 0) 2 (-1)) 8 0) 14 0)))] := hD
  refine lv_iinc (v := 2) (lv' := [(2, .int 2), (0, .ref (ma 0)), (1, .int 0)]) hx hb dX13_starts_52 hl (k := 0) rfl (by decide) (by decide) rfl (fun ls hl => ?_)
  refine lv_goto (tgt := 11) hx hb dX13_starts_55 (by decide) ?_
  refine lv_iload_n hx hb dX13_starts_11 rfl (lv_at hl 0 rfl) ?_
  refine lv_bipush (v := 6) hx hb dX13_starts_12 (by decide) ?_
  refine lv_icmp_ge (tgt := 58) hx hb dX13_starts_14 (by decide) (fun h9 => absurd h9 (by decide)) (fun cx3 => ?_)
  refine lv_aload_n hx hb dX13_starts_17 rfl (lv_at hl 1 rfl) ?_
  refine va_get (ci := 10) (v := .ref (ma 22)) (C := RX13) (T := TX13) (N := 42) hx hb hts inX13 hown hK hP 0 rfl rfl 22 (by decide) lf126 (fun _ h9 => h9) rfl dX13_starts_18 ?_
  refine lv_iload_n hx hb dX13_starts_21 rfl (lv_at hl 2 rfl) ?_
  refine lv_iconst (v := 1) hx hb dX13_starts_22 (by decide) ?_
  refine lv_iadd hx hb dX13_starts_23 ?_
  refine p_topI (v := 1) (by decide) ?_
  refine lv_iload_n hx hb dX13_starts_24 rfl (lv_at hl 0 rfl) ?_
  refine lv_iadd hx hb dX13_starts_25 ?_
  refine p_topI (v := 3) (by decide) ?_
  refine lv_iconst (v := (-1)) hx hb dX13_starts_26 (by decide) ?_
  refine va_iast hx hb hK hP hD hS 1 1 rfl rfl (show ¬ (_ ∨ _) by decide) dX13_starts_27 (fun H locs hP hD hS => ?_)
  have hP : va_P D vwCl [((ma 0), .inr (10, [.int i0, .ref (ma 1), .int i2, .int i3, .ref (ma 4), .ref (ma 5), .ref (ma 6), .int i7, .int i8, .ref (ma 9), .ref (ma 10), .ref (ma 11), .ref (ma 12), .int i13, .ref (ma 14), .ref (ma 15), .int i16, .int i17, .ref (ma 18), .ref (ma 19), .ref (ma 20), .ref (ma 21), .ref (ma 22), .int i23, .ref (ma 24), .int i25, .ref (ma 26), .int i27, .int i28, .int i29, .int i30, .ref (ma 31), .ref (ma 32), .ref (ma 33), .ref (ma 34), .ref (ma 35), .int i36, .int i37, .ref (ma 38), .ref (ma 39), .ref (ma 40), .long i41])), ((ma 22), .inl (k 1, 1320, .inl (upd (upd (upd (upd (upd (upd (upd (upd fs 0 0) 1 (-1)) 7 0) 13 0) 2 (-1)) 8 0) 14 0) 3 (-1))))] H := hP
  have hD : va_D A [((ma 0), .inr (10, [.int i0, .ref (ma 1), .int i2, .int i3, .ref (ma 4), .ref (ma 5), .ref (ma 6), .int i7, .int i8, .ref (ma 9), .ref (ma 10), .ref (ma 11), .ref (ma 12), .int i13, .ref (ma 14), .ref (ma 15), .int i16, .int i17, .ref (ma 18), .ref (ma 19), .ref (ma 20), .ref (ma 21), .ref (ma 22), .int i23, .ref (ma 24), .int i25, .ref (ma 26), .int i27, .int i28, .int i29, .int i30, .ref (ma 31), .ref (ma 32), .ref (ma 33), .ref (ma 34), .ref (ma 35), .int i36, .int i37, .ref (ma 38), .ref (ma 39), .ref (ma 40), .long i41])), ((ma 22), .inl (k 1, 1320, .inl (upd (upd (upd (upd (upd (upd (upd (upd fs 0 0) 1 (-1)) 7 0) 13 0) 2 (-1)) 8 0) 14 0) 3 (-1))))] := hD
  refine lv_aload_n hx hb dX13_starts_28 rfl (lv_at hl 1 rfl) ?_
  refine va_get (ci := 10) (v := .ref (ma 22)) (C := RX13) (T := TX13) (N := 42) hx hb hts inX13 hown hK hP 0 rfl rfl 22 (by decide) lf126 (fun _ h9 => h9) rfl dX13_starts_29 ?_
  refine lv_iload_n hx hb dX13_starts_32 rfl (lv_at hl 2 rfl) ?_
  refine lv_bipush (v := 7) hx hb dX13_starts_33 (by decide) ?_
  refine lv_iadd hx hb dX13_starts_35 ?_
  refine p_topI (v := 7) (by decide) ?_
  refine lv_iload_n hx hb dX13_starts_36 rfl (lv_at hl 0 rfl) ?_
  refine lv_iadd hx hb dX13_starts_37 ?_
  refine p_topI (v := 9) (by decide) ?_
  refine lv_iconst (v := 0) hx hb dX13_starts_38 (by decide) ?_
  refine va_iast hx hb hK hP hD hS 1 1 rfl rfl (show ¬ (_ ∨ _) by decide) dX13_starts_39 (fun H locs hP hD hS => ?_)
  have hP : va_P D vwCl [((ma 0), .inr (10, [.int i0, .ref (ma 1), .int i2, .int i3, .ref (ma 4), .ref (ma 5), .ref (ma 6), .int i7, .int i8, .ref (ma 9), .ref (ma 10), .ref (ma 11), .ref (ma 12), .int i13, .ref (ma 14), .ref (ma 15), .int i16, .int i17, .ref (ma 18), .ref (ma 19), .ref (ma 20), .ref (ma 21), .ref (ma 22), .int i23, .ref (ma 24), .int i25, .ref (ma 26), .int i27, .int i28, .int i29, .int i30, .ref (ma 31), .ref (ma 32), .ref (ma 33), .ref (ma 34), .ref (ma 35), .int i36, .int i37, .ref (ma 38), .ref (ma 39), .ref (ma 40), .long i41])), ((ma 22), .inl (k 1, 1320, .inl (upd (upd (upd (upd (upd (upd (upd (upd (upd fs 0 0) 1 (-1)) 7 0) 13 0) 2 (-1)) 8 0) 14 0) 3 (-1)) 9 0)))] H := hP
  have hD : va_D A [((ma 0), .inr (10, [.int i0, .ref (ma 1), .int i2, .int i3, .ref (ma 4), .ref (ma 5), .ref (ma 6), .int i7, .int i8, .ref (ma 9), .ref (ma 10), .ref (ma 11), .ref (ma 12), .int i13, .ref (ma 14), .ref (ma 15), .int i16, .int i17, .ref (ma 18), .ref (ma 19), .ref (ma 20), .ref (ma 21), .ref (ma 22), .int i23, .ref (ma 24), .int i25, .ref (ma 26), .int i27, .int i28, .int i29, .int i30, .ref (ma 31), .ref (ma 32), .ref (ma 33), .ref (ma 34), .ref (ma 35), .int i36, .int i37, .ref (ma 38), .ref (ma 39), .ref (ma 40), .long i41])), ((ma 22), .inl (k 1, 1320, .inl (upd (upd (upd (upd (upd (upd (upd (upd (upd fs 0 0) 1 (-1)) 7 0) 13 0) 2 (-1)) 8 0) 14 0) 3 (-1)) 9 0)))] := hD
  refine lv_aload_n hx hb dX13_starts_40 rfl (lv_at hl 1 rfl) ?_
  refine va_get (ci := 10) (v := .ref (ma 22)) (C := RX13) (T := TX13) (N := 42) hx hb hts inX13 hown hK hP 0 rfl rfl 22 (by decide) lf126 (fun _ h9 => h9) rfl dX13_starts_41 ?_
  refine lv_iload_n hx hb dX13_starts_44 rfl (lv_at hl 2 rfl) ?_
  refine lv_bipush (v := 13) hx hb dX13_starts_45 (by decide) ?_
  refine lv_iadd hx hb dX13_starts_47 ?_
  refine p_topI (v := 13) (by decide) ?_
  refine lv_iload_n hx hb dX13_starts_48 rfl (lv_at hl 0 rfl) ?_
  refine lv_iadd hx hb dX13_starts_49 ?_
  refine p_topI (v := 15) (by decide) ?_
  refine lv_iconst (v := 0) hx hb dX13_starts_50 (by decide) ?_
  refine va_iast hx hb hK hP hD hS 1 1 rfl rfl (show ¬ (_ ∨ _) by decide) dX13_starts_51 (fun H locs hP hD hS => ?_)
  have hP : va_P D vwCl [((ma 0), .inr (10, [.int i0, .ref (ma 1), .int i2, .int i3, .ref (ma 4), .ref (ma 5), .ref (ma 6), .int i7, .int i8, .ref (ma 9), .ref (ma 10), .ref (ma 11), .ref (ma 12), .int i13, .ref (ma 14), .ref (ma 15), .int i16, .int i17, .ref (ma 18), .ref (ma 19), .ref (ma 20), .ref (ma 21), .ref (ma 22), .int i23, .ref (ma 24), .int i25, .ref (ma 26), .int i27, .int i28, .int i29, .int i30, .ref (ma 31), .ref (ma 32), .ref (ma 33), .ref (ma 34), .ref (ma 35), .int i36, .int i37, .ref (ma 38), .ref (ma 39), .ref (ma 40), .long i41])), ((ma 22), .inl (k 1, 1320, .inl (upd (upd (upd (upd (upd (upd (upd (upd (upd (upd fs 0 0) 1 (-1)) 7 0) 13 0) 2 (-1)) 8 0) 14 0) 3 (-1)) 9 0) 15 0)))] H := hP
  have hD : va_D A [((ma 0), .inr (10, [.int i0, .ref (ma 1), .int i2, .int i3, .ref (ma 4), .ref (ma 5), .ref (ma 6), .int i7, .int i8, .ref (ma 9), .ref (ma 10), .ref (ma 11), .ref (ma 12), .int i13, .ref (ma 14), .ref (ma 15), .int i16, .int i17, .ref (ma 18), .ref (ma 19), .ref (ma 20), .ref (ma 21), .ref (ma 22), .int i23, .ref (ma 24), .int i25, .ref (ma 26), .int i27, .int i28, .int i29, .int i30, .ref (ma 31), .ref (ma 32), .ref (ma 33), .ref (ma 34), .ref (ma 35), .int i36, .int i37, .ref (ma 38), .ref (ma 39), .ref (ma 40), .long i41])), ((ma 22), .inl (k 1, 1320, .inl (upd (upd (upd (upd (upd (upd (upd (upd (upd (upd fs 0 0) 1 (-1)) 7 0) 13 0) 2 (-1)) 8 0) 14 0) 3 (-1)) 9 0) 15 0)))] := hD
  refine lv_iinc (v := 3) (lv' := [(2, .int 3), (0, .ref (ma 0)), (1, .int 0)]) hx hb dX13_starts_52 hl (k := 0) rfl (by decide) (by decide) rfl (fun ls hl => ?_)
  refine lv_goto (tgt := 11) hx hb dX13_starts_55 (by decide) ?_
  refine lv_iload_n hx hb dX13_starts_11 rfl (lv_at hl 0 rfl) ?_
  refine lv_bipush (v := 6) hx hb dX13_starts_12 (by decide) ?_
  refine lv_icmp_ge (tgt := 58) hx hb dX13_starts_14 (by decide) (fun h9 => absurd h9 (by decide)) (fun cx4 => ?_)
  refine lv_aload_n hx hb dX13_starts_17 rfl (lv_at hl 1 rfl) ?_
  refine va_get (ci := 10) (v := .ref (ma 22)) (C := RX13) (T := TX13) (N := 42) hx hb hts inX13 hown hK hP 0 rfl rfl 22 (by decide) lf126 (fun _ h9 => h9) rfl dX13_starts_18 ?_
  refine lv_iload_n hx hb dX13_starts_21 rfl (lv_at hl 2 rfl) ?_
  refine lv_iconst (v := 1) hx hb dX13_starts_22 (by decide) ?_
  refine lv_iadd hx hb dX13_starts_23 ?_
  refine p_topI (v := 1) (by decide) ?_
  refine lv_iload_n hx hb dX13_starts_24 rfl (lv_at hl 0 rfl) ?_
  refine lv_iadd hx hb dX13_starts_25 ?_
  refine p_topI (v := 4) (by decide) ?_
  refine lv_iconst (v := (-1)) hx hb dX13_starts_26 (by decide) ?_
  refine va_iast hx hb hK hP hD hS 1 1 rfl rfl (show ¬ (_ ∨ _) by decide) dX13_starts_27 (fun H locs hP hD hS => ?_)
  have hP : va_P D vwCl [((ma 0), .inr (10, [.int i0, .ref (ma 1), .int i2, .int i3, .ref (ma 4), .ref (ma 5), .ref (ma 6), .int i7, .int i8, .ref (ma 9), .ref (ma 10), .ref (ma 11), .ref (ma 12), .int i13, .ref (ma 14), .ref (ma 15), .int i16, .int i17, .ref (ma 18), .ref (ma 19), .ref (ma 20), .ref (ma 21), .ref (ma 22), .int i23, .ref (ma 24), .int i25, .ref (ma 26), .int i27, .int i28, .int i29, .int i30, .ref (ma 31), .ref (ma 32), .ref (ma 33), .ref (ma 34), .ref (ma 35), .int i36, .int i37, .ref (ma 38), .ref (ma 39), .ref (ma 40), .long i41])), ((ma 22), .inl (k 1, 1320, .inl (upd (upd (upd (upd (upd (upd (upd (upd (upd (upd (upd fs 0 0) 1 (-1)) 7 0) 13 0) 2 (-1)) 8 0) 14 0) 3 (-1)) 9 0) 15 0) 4 (-1))))] H := hP
  have hD : va_D A [((ma 0), .inr (10, [.int i0, .ref (ma 1), .int i2, .int i3, .ref (ma 4), .ref (ma 5), .ref (ma 6), .int i7, .int i8, .ref (ma 9), .ref (ma 10), .ref (ma 11), .ref (ma 12), .int i13, .ref (ma 14), .ref (ma 15), .int i16, .int i17, .ref (ma 18), .ref (ma 19), .ref (ma 20), .ref (ma 21), .ref (ma 22), .int i23, .ref (ma 24), .int i25, .ref (ma 26), .int i27, .int i28, .int i29, .int i30, .ref (ma 31), .ref (ma 32), .ref (ma 33), .ref (ma 34), .ref (ma 35), .int i36, .int i37, .ref (ma 38), .ref (ma 39), .ref (ma 40), .long i41])), ((ma 22), .inl (k 1, 1320, .inl (upd (upd (upd (upd (upd (upd (upd (upd (upd (upd (upd fs 0 0) 1 (-1)) 7 0) 13 0) 2 (-1)) 8 0) 14 0) 3 (-1)) 9 0) 15 0) 4 (-1))))] := hD
  refine lv_aload_n hx hb dX13_starts_28 rfl (lv_at hl 1 rfl) ?_
  refine va_get (ci := 10) (v := .ref (ma 22)) (C := RX13) (T := TX13) (N := 42) hx hb hts inX13 hown hK hP 0 rfl rfl 22 (by decide) lf126 (fun _ h9 => h9) rfl dX13_starts_29 ?_
  refine lv_iload_n hx hb dX13_starts_32 rfl (lv_at hl 2 rfl) ?_
  refine lv_bipush (v := 7) hx hb dX13_starts_33 (by decide) ?_
  refine lv_iadd hx hb dX13_starts_35 ?_
  refine p_topI (v := 7) (by decide) ?_
  refine lv_iload_n hx hb dX13_starts_36 rfl (lv_at hl 0 rfl) ?_
  refine lv_iadd hx hb dX13_starts_37 ?_
  refine p_topI (v := 10) (by decide) ?_
  refine lv_iconst (v := 0) hx hb dX13_starts_38 (by decide) ?_
  refine va_iast hx hb hK hP hD hS 1 1 rfl rfl (show ¬ (_ ∨ _) by decide) dX13_starts_39 (fun H locs hP hD hS => ?_)
  have hP : va_P D vwCl [((ma 0), .inr (10, [.int i0, .ref (ma 1), .int i2, .int i3, .ref (ma 4), .ref (ma 5), .ref (ma 6), .int i7, .int i8, .ref (ma 9), .ref (ma 10), .ref (ma 11), .ref (ma 12), .int i13, .ref (ma 14), .ref (ma 15), .int i16, .int i17, .ref (ma 18), .ref (ma 19), .ref (ma 20), .ref (ma 21), .ref (ma 22), .int i23, .ref (ma 24), .int i25, .ref (ma 26), .int i27, .int i28, .int i29, .int i30, .ref (ma 31), .ref (ma 32), .ref (ma 33), .ref (ma 34), .ref (ma 35), .int i36, .int i37, .ref (ma 38), .ref (ma 39), .ref (ma 40), .long i41])), ((ma 22), .inl (k 1, 1320, .inl (upd (upd (upd (upd (upd (upd (upd (upd (upd (upd (upd (upd fs 0 0) 1 (-1)) 7 0) 13 0) 2 (-1)) 8 0) 14 0) 3 (-1)) 9 0) 15 0) 4 (-1)) 10 0)))] H := hP
  have hD : va_D A [((ma 0), .inr (10, [.int i0, .ref (ma 1), .int i2, .int i3, .ref (ma 4), .ref (ma 5), .ref (ma 6), .int i7, .int i8, .ref (ma 9), .ref (ma 10), .ref (ma 11), .ref (ma 12), .int i13, .ref (ma 14), .ref (ma 15), .int i16, .int i17, .ref (ma 18), .ref (ma 19), .ref (ma 20), .ref (ma 21), .ref (ma 22), .int i23, .ref (ma 24), .int i25, .ref (ma 26), .int i27, .int i28, .int i29, .int i30, .ref (ma 31), .ref (ma 32), .ref (ma 33), .ref (ma 34), .ref (ma 35), .int i36, .int i37, .ref (ma 38), .ref (ma 39), .ref (ma 40), .long i41])), ((ma 22), .inl (k 1, 1320, .inl (upd (upd (upd (upd (upd (upd (upd (upd (upd (upd (upd (upd fs 0 0) 1 (-1)) 7 0) 13 0) 2 (-1)) 8 0) 14 0) 3 (-1)) 9 0) 15 0) 4 (-1)) 10 0)))] := hD
  refine lv_aload_n hx hb dX13_starts_40 rfl (lv_at hl 1 rfl) ?_
  refine va_get (ci := 10) (v := .ref (ma 22)) (C := RX13) (T := TX13) (N := 42) hx hb hts inX13 hown hK hP 0 rfl rfl 22 (by decide) lf126 (fun _ h9 => h9) rfl dX13_starts_41 ?_
  refine lv_iload_n hx hb dX13_starts_44 rfl (lv_at hl 2 rfl) ?_
  refine lv_bipush (v := 13) hx hb dX13_starts_45 (by decide) ?_
  refine lv_iadd hx hb dX13_starts_47 ?_
  refine p_topI (v := 13) (by decide) ?_
  refine lv_iload_n hx hb dX13_starts_48 rfl (lv_at hl 0 rfl) ?_
  refine lv_iadd hx hb dX13_starts_49 ?_
  refine p_topI (v := 16) (by decide) ?_
  refine lv_iconst (v := 0) hx hb dX13_starts_50 (by decide) ?_
  refine va_iast hx hb hK hP hD hS 1 1 rfl rfl (show ¬ (_ ∨ _) by decide) dX13_starts_51 (fun H locs hP hD hS => ?_)
  have hP : va_P D vwCl [((ma 0), .inr (10, [.int i0, .ref (ma 1), .int i2, .int i3, .ref (ma 4), .ref (ma 5), .ref (ma 6), .int i7, .int i8, .ref (ma 9), .ref (ma 10), .ref (ma 11), .ref (ma 12), .int i13, .ref (ma 14), .ref (ma 15), .int i16, .int i17, .ref (ma 18), .ref (ma 19), .ref (ma 20), .ref (ma 21), .ref (ma 22), .int i23, .ref (ma 24), .int i25, .ref (ma 26), .int i27, .int i28, .int i29, .int i30, .ref (ma 31), .ref (ma 32), .ref (ma 33), .ref (ma 34), .ref (ma 35), .int i36, .int i37, .ref (ma 38), .ref (ma 39), .ref (ma 40), .long i41])), ((ma 22), .inl (k 1, 1320, .inl (upd (upd (upd (upd (upd (upd (upd (upd (upd (upd (upd (upd (upd fs 0 0) 1 (-1)) 7 0) 13 0) 2 (-1)) 8 0) 14 0) 3 (-1)) 9 0) 15 0) 4 (-1)) 10 0) 16 0)))] H := hP
  have hD : va_D A [((ma 0), .inr (10, [.int i0, .ref (ma 1), .int i2, .int i3, .ref (ma 4), .ref (ma 5), .ref (ma 6), .int i7, .int i8, .ref (ma 9), .ref (ma 10), .ref (ma 11), .ref (ma 12), .int i13, .ref (ma 14), .ref (ma 15), .int i16, .int i17, .ref (ma 18), .ref (ma 19), .ref (ma 20), .ref (ma 21), .ref (ma 22), .int i23, .ref (ma 24), .int i25, .ref (ma 26), .int i27, .int i28, .int i29, .int i30, .ref (ma 31), .ref (ma 32), .ref (ma 33), .ref (ma 34), .ref (ma 35), .int i36, .int i37, .ref (ma 38), .ref (ma 39), .ref (ma 40), .long i41])), ((ma 22), .inl (k 1, 1320, .inl (upd (upd (upd (upd (upd (upd (upd (upd (upd (upd (upd (upd (upd fs 0 0) 1 (-1)) 7 0) 13 0) 2 (-1)) 8 0) 14 0) 3 (-1)) 9 0) 15 0) 4 (-1)) 10 0) 16 0)))] := hD
  refine lv_iinc (v := 4) (lv' := [(2, .int 4), (0, .ref (ma 0)), (1, .int 0)]) hx hb dX13_starts_52 hl (k := 0) rfl (by decide) (by decide) rfl (fun ls hl => ?_)
  refine lv_goto (tgt := 11) hx hb dX13_starts_55 (by decide) ?_
  refine lv_iload_n hx hb dX13_starts_11 rfl (lv_at hl 0 rfl) ?_
  refine lv_bipush (v := 6) hx hb dX13_starts_12 (by decide) ?_
  refine lv_icmp_ge (tgt := 58) hx hb dX13_starts_14 (by decide) (fun h9 => absurd h9 (by decide)) (fun cx5 => ?_)
  refine lv_aload_n hx hb dX13_starts_17 rfl (lv_at hl 1 rfl) ?_
  refine va_get (ci := 10) (v := .ref (ma 22)) (C := RX13) (T := TX13) (N := 42) hx hb hts inX13 hown hK hP 0 rfl rfl 22 (by decide) lf126 (fun _ h9 => h9) rfl dX13_starts_18 ?_
  refine lv_iload_n hx hb dX13_starts_21 rfl (lv_at hl 2 rfl) ?_
  refine lv_iconst (v := 1) hx hb dX13_starts_22 (by decide) ?_
  refine lv_iadd hx hb dX13_starts_23 ?_
  refine p_topI (v := 1) (by decide) ?_
  refine lv_iload_n hx hb dX13_starts_24 rfl (lv_at hl 0 rfl) ?_
  refine lv_iadd hx hb dX13_starts_25 ?_
  refine p_topI (v := 5) (by decide) ?_
  refine lv_iconst (v := (-1)) hx hb dX13_starts_26 (by decide) ?_
  refine va_iast hx hb hK hP hD hS 1 1 rfl rfl (show ¬ (_ ∨ _) by decide) dX13_starts_27 (fun H locs hP hD hS => ?_)
  have hP : va_P D vwCl [((ma 0), .inr (10, [.int i0, .ref (ma 1), .int i2, .int i3, .ref (ma 4), .ref (ma 5), .ref (ma 6), .int i7, .int i8, .ref (ma 9), .ref (ma 10), .ref (ma 11), .ref (ma 12), .int i13, .ref (ma 14), .ref (ma 15), .int i16, .int i17, .ref (ma 18), .ref (ma 19), .ref (ma 20), .ref (ma 21), .ref (ma 22), .int i23, .ref (ma 24), .int i25, .ref (ma 26), .int i27, .int i28, .int i29, .int i30, .ref (ma 31), .ref (ma 32), .ref (ma 33), .ref (ma 34), .ref (ma 35), .int i36, .int i37, .ref (ma 38), .ref (ma 39), .ref (ma 40), .long i41])), ((ma 22), .inl (k 1, 1320, .inl (upd (upd (upd (upd (upd (upd (upd (upd (upd (upd (upd (upd (upd (upd fs 0 0) 1 (-1)) 7 0) 13 0) 2 (-1)) 8 0) 14 0) 3 (-1)) 9 0) 15 0) 4 (-1)) 10 0) 16 0) 5 (-1))))] H := hP
  have hD : va_D A [((ma 0), .inr (10, [.int i0, .ref (ma 1), .int i2, .int i3, .ref (ma 4), .ref (ma 5), .ref (ma 6), .int i7, .int i8, .ref (ma 9), .ref (ma 10), .ref (ma 11), .ref (ma 12), .int i13, .ref (ma 14), .ref (ma 15), .int i16, .int i17, .ref (ma 18), .ref (ma 19), .ref (ma 20), .ref (ma 21), .ref (ma 22), .int i23, .ref (ma 24), .int i25, .ref (ma 26), .int i27, .int i28, .int i29, .int i30, .ref (ma 31), .ref (ma 32), .ref (ma 33), .ref (ma 34), .ref (ma 35), .int i36, .int i37, .ref (ma 38), .ref (ma 39), .ref (ma 40), .long i41])), ((ma 22), .inl (k 1, 1320, .inl (upd (upd (upd (upd (upd (upd (upd (upd (upd (upd (upd (upd (upd (upd fs 0 0) 1 (-1)) 7 0) 13 0) 2 (-1)) 8 0) 14 0) 3 (-1)) 9 0) 15 0) 4 (-1)) 10 0) 16 0) 5 (-1))))] := hD
  refine lv_aload_n hx hb dX13_starts_28 rfl (lv_at hl 1 rfl) ?_
  refine va_get (ci := 10) (v := .ref (ma 22)) (C := RX13) (T := TX13) (N := 42) hx hb hts inX13 hown hK hP 0 rfl rfl 22 (by decide) lf126 (fun _ h9 => h9) rfl dX13_starts_29 ?_
  refine lv_iload_n hx hb dX13_starts_32 rfl (lv_at hl 2 rfl) ?_
  refine lv_bipush (v := 7) hx hb dX13_starts_33 (by decide) ?_
  refine lv_iadd hx hb dX13_starts_35 ?_
  refine p_topI (v := 7) (by decide) ?_
  refine lv_iload_n hx hb dX13_starts_36 rfl (lv_at hl 0 rfl) ?_
  refine lv_iadd hx hb dX13_starts_37 ?_
  refine p_topI (v := 11) (by decide) ?_
  refine lv_iconst (v := 0) hx hb dX13_starts_38 (by decide) ?_
  refine va_iast hx hb hK hP hD hS 1 1 rfl rfl (show ¬ (_ ∨ _) by decide) dX13_starts_39 (fun H locs hP hD hS => ?_)
  have hP : va_P D vwCl [((ma 0), .inr (10, [.int i0, .ref (ma 1), .int i2, .int i3, .ref (ma 4), .ref (ma 5), .ref (ma 6), .int i7, .int i8, .ref (ma 9), .ref (ma 10), .ref (ma 11), .ref (ma 12), .int i13, .ref (ma 14), .ref (ma 15), .int i16, .int i17, .ref (ma 18), .ref (ma 19), .ref (ma 20), .ref (ma 21), .ref (ma 22), .int i23, .ref (ma 24), .int i25, .ref (ma 26), .int i27, .int i28, .int i29, .int i30, .ref (ma 31), .ref (ma 32), .ref (ma 33), .ref (ma 34), .ref (ma 35), .int i36, .int i37, .ref (ma 38), .ref (ma 39), .ref (ma 40), .long i41])), ((ma 22), .inl (k 1, 1320, .inl (upd (upd (upd (upd (upd (upd (upd (upd (upd (upd (upd (upd (upd (upd (upd fs 0 0) 1 (-1)) 7 0) 13 0) 2 (-1)) 8 0) 14 0) 3 (-1)) 9 0) 15 0) 4 (-1)) 10 0) 16 0) 5 (-1)) 11 0)))] H := hP
  have hD : va_D A [((ma 0), .inr (10, [.int i0, .ref (ma 1), .int i2, .int i3, .ref (ma 4), .ref (ma 5), .ref (ma 6), .int i7, .int i8, .ref (ma 9), .ref (ma 10), .ref (ma 11), .ref (ma 12), .int i13, .ref (ma 14), .ref (ma 15), .int i16, .int i17, .ref (ma 18), .ref (ma 19), .ref (ma 20), .ref (ma 21), .ref (ma 22), .int i23, .ref (ma 24), .int i25, .ref (ma 26), .int i27, .int i28, .int i29, .int i30, .ref (ma 31), .ref (ma 32), .ref (ma 33), .ref (ma 34), .ref (ma 35), .int i36, .int i37, .ref (ma 38), .ref (ma 39), .ref (ma 40), .long i41])), ((ma 22), .inl (k 1, 1320, .inl (upd (upd (upd (upd (upd (upd (upd (upd (upd (upd (upd (upd (upd (upd (upd fs 0 0) 1 (-1)) 7 0) 13 0) 2 (-1)) 8 0) 14 0) 3 (-1)) 9 0) 15 0) 4 (-1)) 10 0) 16 0) 5 (-1)) 11 0)))] := hD
  refine lv_aload_n hx hb dX13_starts_40 rfl (lv_at hl 1 rfl) ?_
  refine va_get (ci := 10) (v := .ref (ma 22)) (C := RX13) (T := TX13) (N := 42) hx hb hts inX13 hown hK hP 0 rfl rfl 22 (by decide) lf126 (fun _ h9 => h9) rfl dX13_starts_41 ?_
  refine lv_iload_n hx hb dX13_starts_44 rfl (lv_at hl 2 rfl) ?_
  refine lv_bipush (v := 13) hx hb dX13_starts_45 (by decide) ?_
  refine lv_iadd hx hb dX13_starts_47 ?_
  refine p_topI (v := 13) (by decide) ?_
  refine lv_iload_n hx hb dX13_starts_48 rfl (lv_at hl 0 rfl) ?_
  refine lv_iadd hx hb dX13_starts_49 ?_
  refine p_topI (v := 17) (by decide) ?_
  refine lv_iconst (v := 0) hx hb dX13_starts_50 (by decide) ?_
  refine va_iast hx hb hK hP hD hS 1 1 rfl rfl (show ¬ (_ ∨ _) by decide) dX13_starts_51 (fun H locs hP hD hS => ?_)
  have hP : va_P D vwCl [((ma 0), .inr (10, [.int i0, .ref (ma 1), .int i2, .int i3, .ref (ma 4), .ref (ma 5), .ref (ma 6), .int i7, .int i8, .ref (ma 9), .ref (ma 10), .ref (ma 11), .ref (ma 12), .int i13, .ref (ma 14), .ref (ma 15), .int i16, .int i17, .ref (ma 18), .ref (ma 19), .ref (ma 20), .ref (ma 21), .ref (ma 22), .int i23, .ref (ma 24), .int i25, .ref (ma 26), .int i27, .int i28, .int i29, .int i30, .ref (ma 31), .ref (ma 32), .ref (ma 33), .ref (ma 34), .ref (ma 35), .int i36, .int i37, .ref (ma 38), .ref (ma 39), .ref (ma 40), .long i41])), ((ma 22), .inl (k 1, 1320, .inl (upd (upd (upd (upd (upd (upd (upd (upd (upd (upd (upd (upd (upd (upd (upd (upd fs 0 0) 1 (-1)) 7 0) 13 0) 2 (-1)) 8 0) 14 0) 3 (-1)) 9 0) 15 0) 4 (-1)) 10 0) 16 0) 5 (-1)) 11 0) 17 0)))] H := hP
  have hD : va_D A [((ma 0), .inr (10, [.int i0, .ref (ma 1), .int i2, .int i3, .ref (ma 4), .ref (ma 5), .ref (ma 6), .int i7, .int i8, .ref (ma 9), .ref (ma 10), .ref (ma 11), .ref (ma 12), .int i13, .ref (ma 14), .ref (ma 15), .int i16, .int i17, .ref (ma 18), .ref (ma 19), .ref (ma 20), .ref (ma 21), .ref (ma 22), .int i23, .ref (ma 24), .int i25, .ref (ma 26), .int i27, .int i28, .int i29, .int i30, .ref (ma 31), .ref (ma 32), .ref (ma 33), .ref (ma 34), .ref (ma 35), .int i36, .int i37, .ref (ma 38), .ref (ma 39), .ref (ma 40), .long i41])), ((ma 22), .inl (k 1, 1320, .inl (upd (upd (upd (upd (upd (upd (upd (upd (upd (upd (upd (upd (upd (upd (upd (upd fs 0 0) 1 (-1)) 7 0) 13 0) 2 (-1)) 8 0) 14 0) 3 (-1)) 9 0) 15 0) 4 (-1)) 10 0) 16 0) 5 (-1)) 11 0) 17 0)))] := hD
  refine lv_iinc (v := 5) (lv' := [(2, .int 5), (0, .ref (ma 0)), (1, .int 0)]) hx hb dX13_starts_52 hl (k := 0) rfl (by decide) (by decide) rfl (fun ls hl => ?_)
  refine lv_goto (tgt := 11) hx hb dX13_starts_55 (by decide) ?_
  refine lv_iload_n hx hb dX13_starts_11 rfl (lv_at hl 0 rfl) ?_
  refine lv_bipush (v := 6) hx hb dX13_starts_12 (by decide) ?_
  refine lv_icmp_ge (tgt := 58) hx hb dX13_starts_14 (by decide) (fun h9 => absurd h9 (by decide)) (fun cx6 => ?_)
  refine lv_aload_n hx hb dX13_starts_17 rfl (lv_at hl 1 rfl) ?_
  refine va_get (ci := 10) (v := .ref (ma 22)) (C := RX13) (T := TX13) (N := 42) hx hb hts inX13 hown hK hP 0 rfl rfl 22 (by decide) lf126 (fun _ h9 => h9) rfl dX13_starts_18 ?_
  refine lv_iload_n hx hb dX13_starts_21 rfl (lv_at hl 2 rfl) ?_
  refine lv_iconst (v := 1) hx hb dX13_starts_22 (by decide) ?_
  refine lv_iadd hx hb dX13_starts_23 ?_
  refine p_topI (v := 1) (by decide) ?_
  refine lv_iload_n hx hb dX13_starts_24 rfl (lv_at hl 0 rfl) ?_
  refine lv_iadd hx hb dX13_starts_25 ?_
  refine p_topI (v := 6) (by decide) ?_
  refine lv_iconst (v := (-1)) hx hb dX13_starts_26 (by decide) ?_
  refine va_iast hx hb hK hP hD hS 1 1 rfl rfl (show ¬ (_ ∨ _) by decide) dX13_starts_27 (fun H locs hP hD hS => ?_)
  have hP : va_P D vwCl [((ma 0), .inr (10, [.int i0, .ref (ma 1), .int i2, .int i3, .ref (ma 4), .ref (ma 5), .ref (ma 6), .int i7, .int i8, .ref (ma 9), .ref (ma 10), .ref (ma 11), .ref (ma 12), .int i13, .ref (ma 14), .ref (ma 15), .int i16, .int i17, .ref (ma 18), .ref (ma 19), .ref (ma 20), .ref (ma 21), .ref (ma 22), .int i23, .ref (ma 24), .int i25, .ref (ma 26), .int i27, .int i28, .int i29, .int i30, .ref (ma 31), .ref (ma 32), .ref (ma 33), .ref (ma 34), .ref (ma 35), .int i36, .int i37, .ref (ma 38), .ref (ma 39), .ref (ma 40), .long i41])), ((ma 22), .inl (k 1, 1320, .inl (upd (upd (upd (upd (upd (upd (upd (upd (upd (upd (upd (upd (upd (upd (upd (upd (upd fs 0 0) 1 (-1)) 7 0) 13 0) 2 (-1)) 8 0) 14 0) 3 (-1)) 9 0) 15 0) 4 (-1)) 10 0) 16 0) 5 (-1)) 11 0) 17 0) 6 (-1))))] H := hP
  have hD : va_D A [((ma 0), .inr (10, [.int i0, .ref (ma 1), .int i2, .int i3, .ref (ma 4), .ref (ma 5), .ref (ma 6), .int i7, .int i8, .ref (ma 9), .ref (ma 10), .ref (ma 11), .ref (ma 12), .int i13, .ref (ma 14), .ref (ma 15), .int i16, .int i17, .ref (ma 18), .ref (ma 19), .ref (ma 20), .ref (ma 21), .ref (ma 22), .int i23, .ref (ma 24), .int i25, .ref (ma 26), .int i27, .int i28, .int i29, .int i30, .ref (ma 31), .ref (ma 32), .ref (ma 33), .ref (ma 34), .ref (ma 35), .int i36, .int i37, .ref (ma 38), .ref (ma 39), .ref (ma 40), .long i41])), ((ma 22), .inl (k 1, 1320, .inl (upd (upd (upd (upd (upd (upd (upd (upd (upd (upd (upd (upd (upd (upd (upd (upd (upd fs 0 0) 1 (-1)) 7 0) 13 0) 2 (-1)) 8 0) 14 0) 3 (-1)) 9 0) 15 0) 4 (-1)) 10 0) 16 0) 5 (-1)) 11 0) 17 0) 6 (-1))))] := hD
  refine lv_aload_n hx hb dX13_starts_28 rfl (lv_at hl 1 rfl) ?_
  refine va_get (ci := 10) (v := .ref (ma 22)) (C := RX13) (T := TX13) (N := 42) hx hb hts inX13 hown hK hP 0 rfl rfl 22 (by decide) lf126 (fun _ h9 => h9) rfl dX13_starts_29 ?_
  refine lv_iload_n hx hb dX13_starts_32 rfl (lv_at hl 2 rfl) ?_
  refine lv_bipush (v := 7) hx hb dX13_starts_33 (by decide) ?_
  refine lv_iadd hx hb dX13_starts_35 ?_
  refine p_topI (v := 7) (by decide) ?_
  refine lv_iload_n hx hb dX13_starts_36 rfl (lv_at hl 0 rfl) ?_
  refine lv_iadd hx hb dX13_starts_37 ?_
  refine p_topI (v := 12) (by decide) ?_
  refine lv_iconst (v := 0) hx hb dX13_starts_38 (by decide) ?_
  refine va_iast hx hb hK hP hD hS 1 1 rfl rfl (show ¬ (_ ∨ _) by decide) dX13_starts_39 (fun H locs hP hD hS => ?_)
  have hP : va_P D vwCl [((ma 0), .inr (10, [.int i0, .ref (ma 1), .int i2, .int i3, .ref (ma 4), .ref (ma 5), .ref (ma 6), .int i7, .int i8, .ref (ma 9), .ref (ma 10), .ref (ma 11), .ref (ma 12), .int i13, .ref (ma 14), .ref (ma 15), .int i16, .int i17, .ref (ma 18), .ref (ma 19), .ref (ma 20), .ref (ma 21), .ref (ma 22), .int i23, .ref (ma 24), .int i25, .ref (ma 26), .int i27, .int i28, .int i29, .int i30, .ref (ma 31), .ref (ma 32), .ref (ma 33), .ref (ma 34), .ref (ma 35), .int i36, .int i37, .ref (ma 38), .ref (ma 39), .ref (ma 40), .long i41])), ((ma 22), .inl (k 1, 1320, .inl (upd (upd (upd (upd (upd (upd (upd (upd (upd (upd (upd (upd (upd (upd (upd (upd (upd (upd fs 0 0) 1 (-1)) 7 0) 13 0) 2 (-1)) 8 0) 14 0) 3 (-1)) 9 0) 15 0) 4 (-1)) 10 0) 16 0) 5 (-1)) 11 0) 17 0) 6 (-1)) 12 0)))] H := hP
  have hD : va_D A [((ma 0), .inr (10, [.int i0, .ref (ma 1), .int i2, .int i3, .ref (ma 4), .ref (ma 5), .ref (ma 6), .int i7, .int i8, .ref (ma 9), .ref (ma 10), .ref (ma 11), .ref (ma 12), .int i13, .ref (ma 14), .ref (ma 15), .int i16, .int i17, .ref (ma 18), .ref (ma 19), .ref (ma 20), .ref (ma 21), .ref (ma 22), .int i23, .ref (ma 24), .int i25, .ref (ma 26), .int i27, .int i28, .int i29, .int i30, .ref (ma 31), .ref (ma 32), .ref (ma 33), .ref (ma 34), .ref (ma 35), .int i36, .int i37, .ref (ma 38), .ref (ma 39), .ref (ma 40), .long i41])), ((ma 22), .inl (k 1, 1320, .inl (upd (upd (upd (upd (upd (upd (upd (upd (upd (upd (upd (upd (upd (upd (upd (upd (upd (upd fs 0 0) 1 (-1)) 7 0) 13 0) 2 (-1)) 8 0) 14 0) 3 (-1)) 9 0) 15 0) 4 (-1)) 10 0) 16 0) 5 (-1)) 11 0) 17 0) 6 (-1)) 12 0)))] := hD
  refine lv_aload_n hx hb dX13_starts_40 rfl (lv_at hl 1 rfl) ?_
  refine va_get (ci := 10) (v := .ref (ma 22)) (C := RX13) (T := TX13) (N := 42) hx hb hts inX13 hown hK hP 0 rfl rfl 22 (by decide) lf126 (fun _ h9 => h9) rfl dX13_starts_41 ?_
  refine lv_iload_n hx hb dX13_starts_44 rfl (lv_at hl 2 rfl) ?_
  refine lv_bipush (v := 13) hx hb dX13_starts_45 (by decide) ?_
  refine lv_iadd hx hb dX13_starts_47 ?_
  refine p_topI (v := 13) (by decide) ?_
  refine lv_iload_n hx hb dX13_starts_48 rfl (lv_at hl 0 rfl) ?_
  refine lv_iadd hx hb dX13_starts_49 ?_
  refine p_topI (v := 18) (by decide) ?_
  refine lv_iconst (v := 0) hx hb dX13_starts_50 (by decide) ?_
  refine va_iast hx hb hK hP hD hS 1 1 rfl rfl (show ¬ (_ ∨ _) by decide) dX13_starts_51 (fun H locs hP hD hS => ?_)
  have hP : va_P D vwCl [((ma 0), .inr (10, [.int i0, .ref (ma 1), .int i2, .int i3, .ref (ma 4), .ref (ma 5), .ref (ma 6), .int i7, .int i8, .ref (ma 9), .ref (ma 10), .ref (ma 11), .ref (ma 12), .int i13, .ref (ma 14), .ref (ma 15), .int i16, .int i17, .ref (ma 18), .ref (ma 19), .ref (ma 20), .ref (ma 21), .ref (ma 22), .int i23, .ref (ma 24), .int i25, .ref (ma 26), .int i27, .int i28, .int i29, .int i30, .ref (ma 31), .ref (ma 32), .ref (ma 33), .ref (ma 34), .ref (ma 35), .int i36, .int i37, .ref (ma 38), .ref (ma 39), .ref (ma 40), .long i41])), ((ma 22), .inl (k 1, 1320, .inl (upd (upd (upd (upd (upd (upd (upd (upd (upd (upd (upd (upd (upd (upd (upd (upd (upd (upd (upd fs 0 0) 1 (-1)) 7 0) 13 0) 2 (-1)) 8 0) 14 0) 3 (-1)) 9 0) 15 0) 4 (-1)) 10 0) 16 0) 5 (-1)) 11 0) 17 0) 6 (-1)) 12 0) 18 0)))] H := hP
  have hD : va_D A [((ma 0), .inr (10, [.int i0, .ref (ma 1), .int i2, .int i3, .ref (ma 4), .ref (ma 5), .ref (ma 6), .int i7, .int i8, .ref (ma 9), .ref (ma 10), .ref (ma 11), .ref (ma 12), .int i13, .ref (ma 14), .ref (ma 15), .int i16, .int i17, .ref (ma 18), .ref (ma 19), .ref (ma 20), .ref (ma 21), .ref (ma 22), .int i23, .ref (ma 24), .int i25, .ref (ma 26), .int i27, .int i28, .int i29, .int i30, .ref (ma 31), .ref (ma 32), .ref (ma 33), .ref (ma 34), .ref (ma 35), .int i36, .int i37, .ref (ma 38), .ref (ma 39), .ref (ma 40), .long i41])), ((ma 22), .inl (k 1, 1320, .inl (upd (upd (upd (upd (upd (upd (upd (upd (upd (upd (upd (upd (upd (upd (upd (upd (upd (upd (upd fs 0 0) 1 (-1)) 7 0) 13 0) 2 (-1)) 8 0) 14 0) 3 (-1)) 9 0) 15 0) 4 (-1)) 10 0) 16 0) 5 (-1)) 11 0) 17 0) 6 (-1)) 12 0) 18 0)))] := hD
  refine lv_iinc (v := 6) (lv' := [(2, .int 6), (0, .ref (ma 0)), (1, .int 0)]) hx hb dX13_starts_52 hl (k := 0) rfl (by decide) (by decide) rfl (fun ls hl => ?_)
  refine lv_goto (tgt := 11) hx hb dX13_starts_55 (by decide) ?_
  refine lv_iload_n hx hb dX13_starts_11 rfl (lv_at hl 0 rfl) ?_
  refine lv_bipush (v := 6) hx hb dX13_starts_12 (by decide) ?_
  refine lv_icmp_ge (tgt := 58) hx hb dX13_starts_14 (by decide) (fun cx7 => ?_) (fun h9 => absurd (by decide) h9)
  exact hret _ _ _ _ _ _ (upd (upd (upd (upd (upd (upd (upd (upd (upd (upd (upd (upd (upd (upd (upd (upd (upd (upd (upd fs 0 0) 1 (-1)) 7 0) 13 0) 2 (-1)) 8 0) 14 0) 3 (-1)) 9 0) 15 0) 4 (-1)) 10 0) 16 0) 5 (-1)) 11 0) 17 0) 6 (-1)) 12 0) 18 0) (by decide) (by decide) dX13_starts_58 rfl (hP.sub [0, 1] rfl) (hD.sub [0, 1] (by decide) rfl) hS
def pw_m_begins : List Cond := .code yX13_begins cX13_begins 2 none :: ([.code yX13_starts cX13_starts 3 none, .fieldLink RX13 126 "RiverVowsModel" "state" "[I", .methodLink RX13 286 yX13_starts, .instanceMethod yX13_starts, .selects RX13 yX13_starts yX13_starts, .initialized RX13, .fieldLink RX13 114 "RiverVowsModel" "lines" "[I", .fieldLink RX13 289 "RiverVowsModel" "undos" "I", .fieldLink RX13 129 "RiverVowsModel" "isMarked" "[Z"] ++ wsX130)
set_option maxRecDepth 20000 in
theorem pg_m_begins_0 : GoodIn pw_m_begins (wsV RX13 286 RX13 yX13_starts pw_m_starts_0) := goodIn_sub (by decide +kernel) (by decide +kernel)
set_option maxHeartbeats 4000000 in
set_option maxRecDepth 100000 in
theorem c_m_begins (l : Launch) (D : va_G) (k : Nat → ClassId) (sz : Nat) (ma : Nat → Nat) (i0 : Int32) (i2 : Int32) (i3 : Int32) (i7 : Int32) (i8 : Int32) (i13 : Int32) (i16 : Int32) (i17 : Int32) (i23 : Int32) (i25 : Int32) (i27 : Int32) (i28 : Int32) (i29 : Int32) (i30 : Int32) (i36 : Int32) (i37 : Int32) (i41 : Int64) (fs : Nat → Int32) (fn : Nat → Int32) (fm : Nat → Int32)  : pMv l yX13_begins pw_m_begins ({ frames := 1, cells := 0, slots := 0, locals := 22 }) D k [.ref (ma 0)] [((ma 0), .inr (10, [.int i0, .ref (ma 1), .int i2, .int i3, .ref (ma 4), .ref (ma 5), .ref (ma 6), .int i7, .int i8, .ref (ma 9), .ref (ma 10), .ref (ma 11), .ref (ma 12), .int i13, .ref (ma 14), .ref (ma 15), .int i16, .int i17, .ref (ma 18), .ref (ma 19), .ref (ma 20), .ref (ma 21), .ref (ma 22), .int i23, .ref (ma 24), .int i25, .ref (ma 26), .int i27, .int i28, .int i29, .int i30, .ref (ma 31), .ref (ma 32), .ref (ma 33), .ref (ma 34), .ref (ma 35), .int i36, .int i37, .ref (ma 38), .ref (ma 39), .ref (ma 40), .long i41])), ((ma 22), .inl (k 1, 1320, .inl fs)), ((ma 18), .inl (k 1, 160, .inl fn)), ((ma 24), .inl (k 3, 4, .inl fm))] sz (S := (Nat → Int32) × (Nat → Int32) × (Nat → Int32)) (fun u => u.1 0 = 0 ∧ u.1 19 = (-1) ∧ u.1 26 = 0 ∧ u.2.1 0 = 0 ∧ u.2.2 0 = 0 ∧ u.2.2 1 = 0 ∧ u.2.2 2 = 0 ∧ u.2.2 3 = 0) (fun u => [((ma 0), .inr (10, [.int i0, .ref (ma 1), .int i2, .int i3, .ref (ma 4), .ref (ma 5), .ref (ma 6), .int i7, .int i8, .ref (ma 9), .ref (ma 10), .ref (ma 11), .ref (ma 12), .int i13, .ref (ma 14), .ref (ma 15), .int i16, .int i17, .ref (ma 18), .ref (ma 19), .ref (ma 20), .ref (ma 21), .ref (ma 22), .int 0, .ref (ma 24), .int i25, .ref (ma 26), .int i27, .int i28, .int i29, .int i30, .ref (ma 31), .ref (ma 32), .ref (ma 33), .ref (ma 34), .ref (ma 35), .int i36, .int i37, .ref (ma 38), .ref (ma 39), .ref (ma 40), .long i41])), ((ma 22), .inl (k 1, 1320, .inl u.1)), ((ma 18), .inl (k 1, 160, .inl u.2.1)), ((ma 24), .inl (k 3, 4, .inl u.2.2))]) 0 0 := by
  refine p_ofv (cc := cX13_begins) (maxL := 2) (by decide) rfl (Nat.le_of_ble_eq_true rfl) ?_
  intro p e s m below meth c hx hb hml hown hts hin hK hN A hA hP hD hS Q hret ls hl
  have hl : lv_has ls 2 [(0, .ref (ma 0))] := hl
  have lf126 := hts (.fieldLink RX13 126 "RiverVowsModel" "state" "[I") (by decide +kernel)
  have inX13 : ∀ w ∈ wsX130, w ∈ pw_m_begins := by decide +kernel
  have lf114 := hts (.fieldLink RX13 114 "RiverVowsModel" "lines" "[I") (by decide +kernel)
  have lf289 := hts (.fieldLink RX13 289 "RiverVowsModel" "undos" "I") (by decide +kernel)
  have lf129 := hts (.fieldLink RX13 129 "RiverVowsModel" "isMarked" "[Z") (by decide +kernel)
  refine lv_aload_n hx hb dX13_begins_0 rfl (lv_at hl 0 rfl) ?_
  refine lv_iconst (v := 0) hx hb dX13_begins_1 (by decide) ?_
  refine p_jv (wr := [((ma 18), .inl (k 1, 160, .inl fn)), ((ma 24), .inl (k 3, 4, .inl fm))]) (va_runV (As := [.int 0]) (rest := []) ⟨hx, hb, hml, hown, hts⟩ (c_m_starts_0 l D k _ ma i0 i2 i3 i7 i8 i13 i16 i17 i23 i25 i27 i28 i29 i30 i36 i37 i41 fs) (cwV 1 hts pg_m_begins_0 rfl rfl rfl (by decide +kernel) ⟨Nat.le_of_ble_eq_true rfl, Nat.le_of_ble_eq_true rfl⟩) (pV hK hN hP hD [0, 1] rfl (by decide) rfl 0 rfl rfl) rfl rfl hl.1 rfl (lv_room (Nat.le_of_ble_eq_true rfl)) dX13_begins_2 ⟨by decide, by decide⟩) hP hD hS hA [0, 1] [2, 3] rfl rfl (by decide) (by decide) (fun ux1 H locs wx2 hP hD hS => ?_)
  obtain ⟨gs_x4, rfl⟩ : ∃ z, z = ux1 := ⟨_, rfl⟩
  have hx5 : gs_x4 0 = 0 := wx2
  have hP : va_P D vwCl [((ma 18), .inl (k 1, 160, .inl fn)), ((ma 24), .inl (k 3, 4, .inl fm)), ((ma 0), .inr (10, [.int i0, .ref (ma 1), .int i2, .int i3, .ref (ma 4), .ref (ma 5), .ref (ma 6), .int i7, .int i8, .ref (ma 9), .ref (ma 10), .ref (ma 11), .ref (ma 12), .int i13, .ref (ma 14), .ref (ma 15), .int i16, .int i17, .ref (ma 18), .ref (ma 19), .ref (ma 20), .ref (ma 21), .ref (ma 22), .int i23, .ref (ma 24), .int i25, .ref (ma 26), .int i27, .int i28, .int i29, .int i30, .ref (ma 31), .ref (ma 32), .ref (ma 33), .ref (ma 34), .ref (ma 35), .int i36, .int i37, .ref (ma 38), .ref (ma 39), .ref (ma 40), .long i41])), ((ma 22), .inl (k 1, 1320, .inl gs_x4))] H := hP
  have hD : va_D A [((ma 18), .inl (k 1, 160, .inl fn)), ((ma 24), .inl (k 3, 4, .inl fm)), ((ma 0), .inr (10, [.int i0, .ref (ma 1), .int i2, .int i3, .ref (ma 4), .ref (ma 5), .ref (ma 6), .int i7, .int i8, .ref (ma 9), .ref (ma 10), .ref (ma 11), .ref (ma 12), .int i13, .ref (ma 14), .ref (ma 15), .int i16, .int i17, .ref (ma 18), .ref (ma 19), .ref (ma 20), .ref (ma 21), .ref (ma 22), .int i23, .ref (ma 24), .int i25, .ref (ma 26), .int i27, .int i28, .int i29, .int i30, .ref (ma 31), .ref (ma 32), .ref (ma 33), .ref (ma 34), .ref (ma 35), .int i36, .int i37, .ref (ma 38), .ref (ma 39), .ref (ma 40), .long i41])), ((ma 22), .inl (k 1, 1320, .inl gs_x4))] := hD
  refine lv_aload_n hx hb dX13_begins_5 rfl (lv_at hl 0 rfl) ?_
  refine va_get (ci := 10) (v := .ref (ma 22)) (C := RX13) (T := TX13) (N := 42) hx hb hts inX13 hown hK hP 2 rfl rfl 22 (by decide) lf126 (fun _ h9 => h9) rfl dX13_begins_6 ?_
  refine lv_bipush (v := 19) hx hb dX13_begins_9 (by decide) ?_
  refine lv_iconst (v := (-1)) hx hb dX13_begins_11 (by decide) ?_
  refine va_iast hx hb hK hP hD hS 3 1 rfl rfl (show ¬ (_ ∨ _) by decide) dX13_begins_12 (fun H locs hP hD hS => ?_)
  have hP : va_P D vwCl [((ma 18), .inl (k 1, 160, .inl fn)), ((ma 24), .inl (k 3, 4, .inl fm)), ((ma 0), .inr (10, [.int i0, .ref (ma 1), .int i2, .int i3, .ref (ma 4), .ref (ma 5), .ref (ma 6), .int i7, .int i8, .ref (ma 9), .ref (ma 10), .ref (ma 11), .ref (ma 12), .int i13, .ref (ma 14), .ref (ma 15), .int i16, .int i17, .ref (ma 18), .ref (ma 19), .ref (ma 20), .ref (ma 21), .ref (ma 22), .int i23, .ref (ma 24), .int i25, .ref (ma 26), .int i27, .int i28, .int i29, .int i30, .ref (ma 31), .ref (ma 32), .ref (ma 33), .ref (ma 34), .ref (ma 35), .int i36, .int i37, .ref (ma 38), .ref (ma 39), .ref (ma 40), .long i41])), ((ma 22), .inl (k 1, 1320, .inl (upd gs_x4 19 (-1))))] H := hP
  have hD : va_D A [((ma 18), .inl (k 1, 160, .inl fn)), ((ma 24), .inl (k 3, 4, .inl fm)), ((ma 0), .inr (10, [.int i0, .ref (ma 1), .int i2, .int i3, .ref (ma 4), .ref (ma 5), .ref (ma 6), .int i7, .int i8, .ref (ma 9), .ref (ma 10), .ref (ma 11), .ref (ma 12), .int i13, .ref (ma 14), .ref (ma 15), .int i16, .int i17, .ref (ma 18), .ref (ma 19), .ref (ma 20), .ref (ma 21), .ref (ma 22), .int i23, .ref (ma 24), .int i25, .ref (ma 26), .int i27, .int i28, .int i29, .int i30, .ref (ma 31), .ref (ma 32), .ref (ma 33), .ref (ma 34), .ref (ma 35), .int i36, .int i37, .ref (ma 38), .ref (ma 39), .ref (ma 40), .long i41])), ((ma 22), .inl (k 1, 1320, .inl (upd gs_x4 19 (-1))))] := hD
  refine lv_aload_n hx hb dX13_begins_13 rfl (lv_at hl 0 rfl) ?_
  refine va_get (ci := 10) (v := .ref (ma 22)) (C := RX13) (T := TX13) (N := 42) hx hb hts inX13 hown hK hP 2 rfl rfl 22 (by decide) lf126 (fun _ h9 => h9) rfl dX13_begins_14 ?_
  refine lv_bipush (v := 26) hx hb dX13_begins_17 (by decide) ?_
  refine lv_iconst (v := 0) hx hb dX13_begins_19 (by decide) ?_
  refine va_iast hx hb hK hP hD hS 3 1 rfl rfl (show ¬ (_ ∨ _) by decide) dX13_begins_20 (fun H locs hP hD hS => ?_)
  have hP : va_P D vwCl [((ma 18), .inl (k 1, 160, .inl fn)), ((ma 24), .inl (k 3, 4, .inl fm)), ((ma 0), .inr (10, [.int i0, .ref (ma 1), .int i2, .int i3, .ref (ma 4), .ref (ma 5), .ref (ma 6), .int i7, .int i8, .ref (ma 9), .ref (ma 10), .ref (ma 11), .ref (ma 12), .int i13, .ref (ma 14), .ref (ma 15), .int i16, .int i17, .ref (ma 18), .ref (ma 19), .ref (ma 20), .ref (ma 21), .ref (ma 22), .int i23, .ref (ma 24), .int i25, .ref (ma 26), .int i27, .int i28, .int i29, .int i30, .ref (ma 31), .ref (ma 32), .ref (ma 33), .ref (ma 34), .ref (ma 35), .int i36, .int i37, .ref (ma 38), .ref (ma 39), .ref (ma 40), .long i41])), ((ma 22), .inl (k 1, 1320, .inl (upd (upd gs_x4 19 (-1)) 26 0)))] H := hP
  have hD : va_D A [((ma 18), .inl (k 1, 160, .inl fn)), ((ma 24), .inl (k 3, 4, .inl fm)), ((ma 0), .inr (10, [.int i0, .ref (ma 1), .int i2, .int i3, .ref (ma 4), .ref (ma 5), .ref (ma 6), .int i7, .int i8, .ref (ma 9), .ref (ma 10), .ref (ma 11), .ref (ma 12), .int i13, .ref (ma 14), .ref (ma 15), .int i16, .int i17, .ref (ma 18), .ref (ma 19), .ref (ma 20), .ref (ma 21), .ref (ma 22), .int i23, .ref (ma 24), .int i25, .ref (ma 26), .int i27, .int i28, .int i29, .int i30, .ref (ma 31), .ref (ma 32), .ref (ma 33), .ref (ma 34), .ref (ma 35), .int i36, .int i37, .ref (ma 38), .ref (ma 39), .ref (ma 40), .long i41])), ((ma 22), .inl (k 1, 1320, .inl (upd (upd gs_x4 19 (-1)) 26 0)))] := hD
  refine lv_aload_n hx hb dX13_begins_21 rfl (lv_at hl 0 rfl) ?_
  refine va_get (ci := 10) (v := .ref (ma 18)) (C := RX13) (T := TX13) (N := 42) hx hb hts inX13 hown hK hP 2 rfl rfl 18 (by decide) lf114 (fun _ h9 => h9) rfl dX13_begins_22 ?_
  refine lv_iconst (v := 0) hx hb dX13_begins_25 (by decide) ?_
  refine lv_iconst (v := 0) hx hb dX13_begins_26 (by decide) ?_
  refine va_iast hx hb hK hP hD hS 0 1 rfl rfl (show ¬ (_ ∨ _) by decide) dX13_begins_27 (fun H locs hP hD hS => ?_)
  have hP : va_P D vwCl [((ma 18), .inl (k 1, 160, .inl (upd fn 0 0))), ((ma 24), .inl (k 3, 4, .inl fm)), ((ma 0), .inr (10, [.int i0, .ref (ma 1), .int i2, .int i3, .ref (ma 4), .ref (ma 5), .ref (ma 6), .int i7, .int i8, .ref (ma 9), .ref (ma 10), .ref (ma 11), .ref (ma 12), .int i13, .ref (ma 14), .ref (ma 15), .int i16, .int i17, .ref (ma 18), .ref (ma 19), .ref (ma 20), .ref (ma 21), .ref (ma 22), .int i23, .ref (ma 24), .int i25, .ref (ma 26), .int i27, .int i28, .int i29, .int i30, .ref (ma 31), .ref (ma 32), .ref (ma 33), .ref (ma 34), .ref (ma 35), .int i36, .int i37, .ref (ma 38), .ref (ma 39), .ref (ma 40), .long i41])), ((ma 22), .inl (k 1, 1320, .inl (upd (upd gs_x4 19 (-1)) 26 0)))] H := hP
  have hD : va_D A [((ma 18), .inl (k 1, 160, .inl (upd fn 0 0))), ((ma 24), .inl (k 3, 4, .inl fm)), ((ma 0), .inr (10, [.int i0, .ref (ma 1), .int i2, .int i3, .ref (ma 4), .ref (ma 5), .ref (ma 6), .int i7, .int i8, .ref (ma 9), .ref (ma 10), .ref (ma 11), .ref (ma 12), .int i13, .ref (ma 14), .ref (ma 15), .int i16, .int i17, .ref (ma 18), .ref (ma 19), .ref (ma 20), .ref (ma 21), .ref (ma 22), .int i23, .ref (ma 24), .int i25, .ref (ma 26), .int i27, .int i28, .int i29, .int i30, .ref (ma 31), .ref (ma 32), .ref (ma 33), .ref (ma 34), .ref (ma 35), .int i36, .int i37, .ref (ma 38), .ref (ma 39), .ref (ma 40), .long i41])), ((ma 22), .inl (k 1, 1320, .inl (upd (upd gs_x4 19 (-1)) 26 0)))] := hD
  refine lv_aload_n hx hb dX13_begins_28 rfl (lv_at hl 0 rfl) ?_
  refine lv_iconst (v := 0) hx hb dX13_begins_29 (by decide) ?_
  refine va_put (ci := 10) (v := .int 0) (ty := .int) (C := RX13) (T := TX13) (N := 42) hx hb hts inX13 tyX13 tyX13_ok nmX13 hown hK hP hD hS 2 rfl rfl 23 (by decide) lf289 (fun _ h9 => h9) rfl (by decide +kernel) rfl rfl (Nat.le_of_ble_eq_true rfl) dX13_begins_30 (fun H locs hP hD hS => ?_)
  have hP : va_P D vwCl [((ma 18), .inl (k 1, 160, .inl (upd fn 0 0))), ((ma 24), .inl (k 3, 4, .inl fm)), ((ma 0), .inr (10, [.int i0, .ref (ma 1), .int i2, .int i3, .ref (ma 4), .ref (ma 5), .ref (ma 6), .int i7, .int i8, .ref (ma 9), .ref (ma 10), .ref (ma 11), .ref (ma 12), .int i13, .ref (ma 14), .ref (ma 15), .int i16, .int i17, .ref (ma 18), .ref (ma 19), .ref (ma 20), .ref (ma 21), .ref (ma 22), .int 0, .ref (ma 24), .int i25, .ref (ma 26), .int i27, .int i28, .int i29, .int i30, .ref (ma 31), .ref (ma 32), .ref (ma 33), .ref (ma 34), .ref (ma 35), .int i36, .int i37, .ref (ma 38), .ref (ma 39), .ref (ma 40), .long i41])), ((ma 22), .inl (k 1, 1320, .inl (upd (upd gs_x4 19 (-1)) 26 0)))] H := hP
  have hD : va_D A [((ma 18), .inl (k 1, 160, .inl (upd fn 0 0))), ((ma 24), .inl (k 3, 4, .inl fm)), ((ma 0), .inr (10, [.int i0, .ref (ma 1), .int i2, .int i3, .ref (ma 4), .ref (ma 5), .ref (ma 6), .int i7, .int i8, .ref (ma 9), .ref (ma 10), .ref (ma 11), .ref (ma 12), .int i13, .ref (ma 14), .ref (ma 15), .int i16, .int i17, .ref (ma 18), .ref (ma 19), .ref (ma 20), .ref (ma 21), .ref (ma 22), .int 0, .ref (ma 24), .int i25, .ref (ma 26), .int i27, .int i28, .int i29, .int i30, .ref (ma 31), .ref (ma 32), .ref (ma 33), .ref (ma 34), .ref (ma 35), .int i36, .int i37, .ref (ma 38), .ref (ma 39), .ref (ma 40), .long i41])), ((ma 22), .inl (k 1, 1320, .inl (upd (upd gs_x4 19 (-1)) 26 0)))] := hD
  refine lv_iconst (v := 0) hx hb dX13_begins_33 (by decide) ?_
  refine lv_istore_n (lv' := [(1, .int 0), (0, .ref (ma 0))]) hx hb dX13_begins_34 rfl hl (by decide) rfl (fun ls hl => ?_)
  refine lv_iload_n hx hb dX13_begins_35 rfl (lv_at hl 0 rfl) ?_
  refine lv_iconst (v := 4) hx hb dX13_begins_36 (by decide) ?_
  refine lv_icmp_ge (tgt := 53) hx hb dX13_begins_37 (by decide) (fun h9 => absurd h9 (by decide)) (fun cx6 => ?_)
  refine lv_aload_n hx hb dX13_begins_40 rfl (lv_at hl 1 rfl) ?_
  refine va_get (ci := 10) (v := .ref (ma 24)) (C := RX13) (T := TX13) (N := 42) hx hb hts inX13 hown hK hP 2 rfl rfl 24 (by decide) lf129 (fun _ h9 => h9) rfl dX13_begins_41 ?_
  refine lv_iload_n hx hb dX13_begins_44 rfl (lv_at hl 0 rfl) ?_
  refine lv_iconst (v := 0) hx hb dX13_begins_45 (by decide) ?_
  refine va_zast hx hb hK hP hD hS 1 3 rfl rfl (show ¬ (_ ∨ _) by decide) dX13_begins_46 (fun H locs hP hD hS => ?_)
  have hP : va_P D vwCl [((ma 18), .inl (k 1, 160, .inl (upd fn 0 0))), ((ma 24), .inl (k 3, 4, .inl (upd fm 0 0))), ((ma 0), .inr (10, [.int i0, .ref (ma 1), .int i2, .int i3, .ref (ma 4), .ref (ma 5), .ref (ma 6), .int i7, .int i8, .ref (ma 9), .ref (ma 10), .ref (ma 11), .ref (ma 12), .int i13, .ref (ma 14), .ref (ma 15), .int i16, .int i17, .ref (ma 18), .ref (ma 19), .ref (ma 20), .ref (ma 21), .ref (ma 22), .int 0, .ref (ma 24), .int i25, .ref (ma 26), .int i27, .int i28, .int i29, .int i30, .ref (ma 31), .ref (ma 32), .ref (ma 33), .ref (ma 34), .ref (ma 35), .int i36, .int i37, .ref (ma 38), .ref (ma 39), .ref (ma 40), .long i41])), ((ma 22), .inl (k 1, 1320, .inl (upd (upd gs_x4 19 (-1)) 26 0)))] H := hP
  have hD : va_D A [((ma 18), .inl (k 1, 160, .inl (upd fn 0 0))), ((ma 24), .inl (k 3, 4, .inl (upd fm 0 0))), ((ma 0), .inr (10, [.int i0, .ref (ma 1), .int i2, .int i3, .ref (ma 4), .ref (ma 5), .ref (ma 6), .int i7, .int i8, .ref (ma 9), .ref (ma 10), .ref (ma 11), .ref (ma 12), .int i13, .ref (ma 14), .ref (ma 15), .int i16, .int i17, .ref (ma 18), .ref (ma 19), .ref (ma 20), .ref (ma 21), .ref (ma 22), .int 0, .ref (ma 24), .int i25, .ref (ma 26), .int i27, .int i28, .int i29, .int i30, .ref (ma 31), .ref (ma 32), .ref (ma 33), .ref (ma 34), .ref (ma 35), .int i36, .int i37, .ref (ma 38), .ref (ma 39), .ref (ma 40), .long i41])), ((ma 22), .inl (k 1, 1320, .inl (upd (upd gs_x4 19 (-1)) 26 0)))] := hD
  refine lv_iinc (v := 1) (lv' := [(1, .int 1), (0, .ref (ma 0))]) hx hb dX13_begins_47 hl (k := 0) rfl (by decide) (by decide) rfl (fun ls hl => ?_)
  refine lv_goto (tgt := 35) hx hb dX13_begins_50 (by decide) ?_
  refine lv_iload_n hx hb dX13_begins_35 rfl (lv_at hl 0 rfl) ?_
  refine lv_iconst (v := 4) hx hb dX13_begins_36 (by decide) ?_
  refine lv_icmp_ge (tgt := 53) hx hb dX13_begins_37 (by decide) (fun h9 => absurd h9 (by decide)) (fun cx7 => ?_)
  refine lv_aload_n hx hb dX13_begins_40 rfl (lv_at hl 1 rfl) ?_
  refine va_get (ci := 10) (v := .ref (ma 24)) (C := RX13) (T := TX13) (N := 42) hx hb hts inX13 hown hK hP 2 rfl rfl 24 (by decide) lf129 (fun _ h9 => h9) rfl dX13_begins_41 ?_
  refine lv_iload_n hx hb dX13_begins_44 rfl (lv_at hl 0 rfl) ?_
  refine lv_iconst (v := 0) hx hb dX13_begins_45 (by decide) ?_
  refine va_zast hx hb hK hP hD hS 1 3 rfl rfl (show ¬ (_ ∨ _) by decide) dX13_begins_46 (fun H locs hP hD hS => ?_)
  have hP : va_P D vwCl [((ma 18), .inl (k 1, 160, .inl (upd fn 0 0))), ((ma 24), .inl (k 3, 4, .inl (upd (upd fm 0 0) 1 0))), ((ma 0), .inr (10, [.int i0, .ref (ma 1), .int i2, .int i3, .ref (ma 4), .ref (ma 5), .ref (ma 6), .int i7, .int i8, .ref (ma 9), .ref (ma 10), .ref (ma 11), .ref (ma 12), .int i13, .ref (ma 14), .ref (ma 15), .int i16, .int i17, .ref (ma 18), .ref (ma 19), .ref (ma 20), .ref (ma 21), .ref (ma 22), .int 0, .ref (ma 24), .int i25, .ref (ma 26), .int i27, .int i28, .int i29, .int i30, .ref (ma 31), .ref (ma 32), .ref (ma 33), .ref (ma 34), .ref (ma 35), .int i36, .int i37, .ref (ma 38), .ref (ma 39), .ref (ma 40), .long i41])), ((ma 22), .inl (k 1, 1320, .inl (upd (upd gs_x4 19 (-1)) 26 0)))] H := hP
  have hD : va_D A [((ma 18), .inl (k 1, 160, .inl (upd fn 0 0))), ((ma 24), .inl (k 3, 4, .inl (upd (upd fm 0 0) 1 0))), ((ma 0), .inr (10, [.int i0, .ref (ma 1), .int i2, .int i3, .ref (ma 4), .ref (ma 5), .ref (ma 6), .int i7, .int i8, .ref (ma 9), .ref (ma 10), .ref (ma 11), .ref (ma 12), .int i13, .ref (ma 14), .ref (ma 15), .int i16, .int i17, .ref (ma 18), .ref (ma 19), .ref (ma 20), .ref (ma 21), .ref (ma 22), .int 0, .ref (ma 24), .int i25, .ref (ma 26), .int i27, .int i28, .int i29, .int i30, .ref (ma 31), .ref (ma 32), .ref (ma 33), .ref (ma 34), .ref (ma 35), .int i36, .int i37, .ref (ma 38), .ref (ma 39), .ref (ma 40), .long i41])), ((ma 22), .inl (k 1, 1320, .inl (upd (upd gs_x4 19 (-1)) 26 0)))] := hD
  refine lv_iinc (v := 2) (lv' := [(1, .int 2), (0, .ref (ma 0))]) hx hb dX13_begins_47 hl (k := 0) rfl (by decide) (by decide) rfl (fun ls hl => ?_)
  refine lv_goto (tgt := 35) hx hb dX13_begins_50 (by decide) ?_
  refine lv_iload_n hx hb dX13_begins_35 rfl (lv_at hl 0 rfl) ?_
  refine lv_iconst (v := 4) hx hb dX13_begins_36 (by decide) ?_
  refine lv_icmp_ge (tgt := 53) hx hb dX13_begins_37 (by decide) (fun h9 => absurd h9 (by decide)) (fun cx8 => ?_)
  refine lv_aload_n hx hb dX13_begins_40 rfl (lv_at hl 1 rfl) ?_
  refine va_get (ci := 10) (v := .ref (ma 24)) (C := RX13) (T := TX13) (N := 42) hx hb hts inX13 hown hK hP 2 rfl rfl 24 (by decide) lf129 (fun _ h9 => h9) rfl dX13_begins_41 ?_
  refine lv_iload_n hx hb dX13_begins_44 rfl (lv_at hl 0 rfl) ?_
  refine lv_iconst (v := 0) hx hb dX13_begins_45 (by decide) ?_
  refine va_zast hx hb hK hP hD hS 1 3 rfl rfl (show ¬ (_ ∨ _) by decide) dX13_begins_46 (fun H locs hP hD hS => ?_)
  have hP : va_P D vwCl [((ma 18), .inl (k 1, 160, .inl (upd fn 0 0))), ((ma 24), .inl (k 3, 4, .inl (upd (upd (upd fm 0 0) 1 0) 2 0))), ((ma 0), .inr (10, [.int i0, .ref (ma 1), .int i2, .int i3, .ref (ma 4), .ref (ma 5), .ref (ma 6), .int i7, .int i8, .ref (ma 9), .ref (ma 10), .ref (ma 11), .ref (ma 12), .int i13, .ref (ma 14), .ref (ma 15), .int i16, .int i17, .ref (ma 18), .ref (ma 19), .ref (ma 20), .ref (ma 21), .ref (ma 22), .int 0, .ref (ma 24), .int i25, .ref (ma 26), .int i27, .int i28, .int i29, .int i30, .ref (ma 31), .ref (ma 32), .ref (ma 33), .ref (ma 34), .ref (ma 35), .int i36, .int i37, .ref (ma 38), .ref (ma 39), .ref (ma 40), .long i41])), ((ma 22), .inl (k 1, 1320, .inl (upd (upd gs_x4 19 (-1)) 26 0)))] H := hP
  have hD : va_D A [((ma 18), .inl (k 1, 160, .inl (upd fn 0 0))), ((ma 24), .inl (k 3, 4, .inl (upd (upd (upd fm 0 0) 1 0) 2 0))), ((ma 0), .inr (10, [.int i0, .ref (ma 1), .int i2, .int i3, .ref (ma 4), .ref (ma 5), .ref (ma 6), .int i7, .int i8, .ref (ma 9), .ref (ma 10), .ref (ma 11), .ref (ma 12), .int i13, .ref (ma 14), .ref (ma 15), .int i16, .int i17, .ref (ma 18), .ref (ma 19), .ref (ma 20), .ref (ma 21), .ref (ma 22), .int 0, .ref (ma 24), .int i25, .ref (ma 26), .int i27, .int i28, .int i29, .int i30, .ref (ma 31), .ref (ma 32), .ref (ma 33), .ref (ma 34), .ref (ma 35), .int i36, .int i37, .ref (ma 38), .ref (ma 39), .ref (ma 40), .long i41])), ((ma 22), .inl (k 1, 1320, .inl (upd (upd gs_x4 19 (-1)) 26 0)))] := hD
  refine lv_iinc (v := 3) (lv' := [(1, .int 3), (0, .ref (ma 0))]) hx hb dX13_begins_47 hl (k := 0) rfl (by decide) (by decide) rfl (fun ls hl => ?_)
  refine lv_goto (tgt := 35) hx hb dX13_begins_50 (by decide) ?_
  refine lv_iload_n hx hb dX13_begins_35 rfl (lv_at hl 0 rfl) ?_
  refine lv_iconst (v := 4) hx hb dX13_begins_36 (by decide) ?_
  refine lv_icmp_ge (tgt := 53) hx hb dX13_begins_37 (by decide) (fun h9 => absurd h9 (by decide)) (fun cx9 => ?_)
  refine lv_aload_n hx hb dX13_begins_40 rfl (lv_at hl 1 rfl) ?_
  refine va_get (ci := 10) (v := .ref (ma 24)) (C := RX13) (T := TX13) (N := 42) hx hb hts inX13 hown hK hP 2 rfl rfl 24 (by decide) lf129 (fun _ h9 => h9) rfl dX13_begins_41 ?_
  refine lv_iload_n hx hb dX13_begins_44 rfl (lv_at hl 0 rfl) ?_
  refine lv_iconst (v := 0) hx hb dX13_begins_45 (by decide) ?_
  refine va_zast hx hb hK hP hD hS 1 3 rfl rfl (show ¬ (_ ∨ _) by decide) dX13_begins_46 (fun H locs hP hD hS => ?_)
  have hP : va_P D vwCl [((ma 18), .inl (k 1, 160, .inl (upd fn 0 0))), ((ma 24), .inl (k 3, 4, .inl (upd (upd (upd (upd fm 0 0) 1 0) 2 0) 3 0))), ((ma 0), .inr (10, [.int i0, .ref (ma 1), .int i2, .int i3, .ref (ma 4), .ref (ma 5), .ref (ma 6), .int i7, .int i8, .ref (ma 9), .ref (ma 10), .ref (ma 11), .ref (ma 12), .int i13, .ref (ma 14), .ref (ma 15), .int i16, .int i17, .ref (ma 18), .ref (ma 19), .ref (ma 20), .ref (ma 21), .ref (ma 22), .int 0, .ref (ma 24), .int i25, .ref (ma 26), .int i27, .int i28, .int i29, .int i30, .ref (ma 31), .ref (ma 32), .ref (ma 33), .ref (ma 34), .ref (ma 35), .int i36, .int i37, .ref (ma 38), .ref (ma 39), .ref (ma 40), .long i41])), ((ma 22), .inl (k 1, 1320, .inl (upd (upd gs_x4 19 (-1)) 26 0)))] H := hP
  have hD : va_D A [((ma 18), .inl (k 1, 160, .inl (upd fn 0 0))), ((ma 24), .inl (k 3, 4, .inl (upd (upd (upd (upd fm 0 0) 1 0) 2 0) 3 0))), ((ma 0), .inr (10, [.int i0, .ref (ma 1), .int i2, .int i3, .ref (ma 4), .ref (ma 5), .ref (ma 6), .int i7, .int i8, .ref (ma 9), .ref (ma 10), .ref (ma 11), .ref (ma 12), .int i13, .ref (ma 14), .ref (ma 15), .int i16, .int i17, .ref (ma 18), .ref (ma 19), .ref (ma 20), .ref (ma 21), .ref (ma 22), .int 0, .ref (ma 24), .int i25, .ref (ma 26), .int i27, .int i28, .int i29, .int i30, .ref (ma 31), .ref (ma 32), .ref (ma 33), .ref (ma 34), .ref (ma 35), .int i36, .int i37, .ref (ma 38), .ref (ma 39), .ref (ma 40), .long i41])), ((ma 22), .inl (k 1, 1320, .inl (upd (upd gs_x4 19 (-1)) 26 0)))] := hD
  refine lv_iinc (v := 4) (lv' := [(1, .int 4), (0, .ref (ma 0))]) hx hb dX13_begins_47 hl (k := 0) rfl (by decide) (by decide) rfl (fun ls hl => ?_)
  refine lv_goto (tgt := 35) hx hb dX13_begins_50 (by decide) ?_
  refine lv_iload_n hx hb dX13_begins_35 rfl (lv_at hl 0 rfl) ?_
  refine lv_iconst (v := 4) hx hb dX13_begins_36 (by decide) ?_
  refine lv_icmp_ge (tgt := 53) hx hb dX13_begins_37 (by decide) (fun cx10 => ?_) (fun h9 => absurd (by decide) h9)
  exact hret _ _ _ _ _ _ ((upd (upd gs_x4 19 (-1)) 26 0), (upd fn 0 0), (upd (upd (upd (upd fm 0 0) 1 0) 2 0) 3 0)) (by decide) (by decide) dX13_begins_53 ⟨hx5, rfl, rfl, rfl, rfl, rfl, rfl, rfl⟩ (hP.sub [2, 3, 0, 1] rfl) (hD.sub [2, 3, 0, 1] (by decide) rfl) hS
def pw_m_stands_0 : List Cond := .code yX13_standsAsAlways cX13_standsAsAlways 3 none :: ([.fieldLink RX13 99 "RiverVowsModel" "lands" "[I"] ++ wsX130)
set_option maxHeartbeats 4000000 in
set_option maxRecDepth 100000 in
theorem c_m_stands_0 (l : Launch) (D : va_G) (k : Nat → ClassId) (sz : Nat) (ma : Nat → Nat) (i0 : Int32) (i2 : Int32) (i3 : Int32) (i7 : Int32) (i8 : Int32) (i13 : Int32) (i16 : Int32) (i17 : Int32) (i23 : Int32) (i25 : Int32) (i27 : Int32) (i28 : Int32) (i29 : Int32) (i30 : Int32) (i36 : Int32) (i37 : Int32) (i41 : Int64) (fl : Nat → Int32)  : pMv l yX13_standsAsAlways pw_m_stands_0 ({ frames := 0, cells := 0, slots := 0, locals := 0 }) D k [.ref (ma 0), .int 0] [((ma 0), .inr (10, [.int i0, .ref (ma 1), .int i2, .int i3, .ref (ma 4), .ref (ma 5), .ref (ma 6), .int i7, .int i8, .ref (ma 9), .ref (ma 10), .ref (ma 11), .ref (ma 12), .int i13, .ref (ma 14), .ref (ma 15), .int i16, .int i17, .ref (ma 18), .ref (ma 19), .ref (ma 20), .ref (ma 21), .ref (ma 22), .int i23, .ref (ma 24), .int i25, .ref (ma 26), .int i27, .int i28, .int i29, .int i30, .ref (ma 31), .ref (ma 32), .ref (ma 33), .ref (ma 34), .ref (ma 35), .int i36, .int i37, .ref (ma 38), .ref (ma 39), .ref (ma 40), .long i41])), ((ma 10), .inl (k 1, 220, .inl fl))] sz (S := (Nat → Int32)) (fun u => u 0 = 0 ∧ u 1 = 0 ∧ u 2 = 0) (fun u => [((ma 0), .inr (10, [.int i0, .ref (ma 1), .int i2, .int i3, .ref (ma 4), .ref (ma 5), .ref (ma 6), .int i7, .int i8, .ref (ma 9), .ref (ma 10), .ref (ma 11), .ref (ma 12), .int i13, .ref (ma 14), .ref (ma 15), .int i16, .int i17, .ref (ma 18), .ref (ma 19), .ref (ma 20), .ref (ma 21), .ref (ma 22), .int i23, .ref (ma 24), .int i25, .ref (ma 26), .int i27, .int i28, .int i29, .int i30, .ref (ma 31), .ref (ma 32), .ref (ma 33), .ref (ma 34), .ref (ma 35), .int i36, .int i37, .ref (ma 38), .ref (ma 39), .ref (ma 40), .long i41])), ((ma 10), .inl (k 1, 220, .inl u))]) 0 0 := by
  refine p_ofv (cc := cX13_standsAsAlways) (maxL := 3) (by decide) rfl (Nat.le_of_ble_eq_true rfl) ?_
  intro p e s m below meth c hx hb hml hown hts hin hK hN A hA hP hD hS Q hret ls hl
  have hl : lv_has ls 3 [(0, .ref (ma 0)), (1, .int 0)] := hl
  have lf99 := hts (.fieldLink RX13 99 "RiverVowsModel" "lands" "[I") (by decide +kernel)
  have inX13 : ∀ w ∈ wsX130, w ∈ pw_m_stands_0 := by decide +kernel
  refine lv_iconst (v := 0) hx hb dX13_standsAsAlways_0 (by decide) ?_
  refine lv_istore_n (lv' := [(2, .int 0), (0, .ref (ma 0)), (1, .int 0)]) hx hb dX13_standsAsAlways_1 rfl hl (by decide) rfl (fun ls hl => ?_)
  have key2 : ∀ (n : Nat) (i : Nat) (fz : Nat → Int32) (hin : i + n = 110) (hz : ∀ j, j < i → fz j = 0) (H : Heap) (locs : List Loc) (ls : Array Slot), va_P D vwCl [((ma 0), .inr (10, [.int i0, .ref (ma 1), .int i2, .int i3, .ref (ma 4), .ref (ma 5), .ref (ma 6), .int i7, .int i8, .ref (ma 9), .ref (ma 10), .ref (ma 11), .ref (ma 12), .int i13, .ref (ma 14), .ref (ma 15), .int i16, .int i17, .ref (ma 18), .ref (ma 19), .ref (ma 20), .ref (ma 21), .ref (ma 22), .int i23, .ref (ma 24), .int i25, .ref (ma 26), .int i27, .int i28, .int i29, .int i30, .ref (ma 31), .ref (ma 32), .ref (ma 33), .ref (ma 34), .ref (ma 35), .int i36, .int i37, .ref (ma 38), .ref (ma 39), .ref (ma 40), .long i41])), ((ma 10), .inl (k 1, 220, .inl fz))] H → va_D A [((ma 0), .inr (10, [.int i0, .ref (ma 1), .int i2, .int i3, .ref (ma 4), .ref (ma 5), .ref (ma 6), .int i7, .int i8, .ref (ma 9), .ref (ma 10), .ref (ma 11), .ref (ma 12), .int i13, .ref (ma 14), .ref (ma 15), .int i16, .int i17, .ref (ma 18), .ref (ma 19), .ref (ma 20), .ref (ma 21), .ref (ma 22), .int i23, .ref (ma 24), .int i25, .ref (ma 26), .int i27, .int i28, .int i29, .int i30, .ref (ma 31), .ref (ma 32), .ref (ma 33), .ref (ma 34), .ref (ma 35), .int i36, .int i37, .ref (ma 38), .ref (ma 39), .ref (ma 40), .long i41])), ((ma 10), .inl (k 1, 220, .inl fz))] → va_S A s.heap H locs → lv_has ls 3 [(2, .int (nI i)), (0, .ref (ma 0)), (1, .int 0)] → W p l e ({ frames := 0, cells := 0, slots := 0, locals := 0 }) s m [.ref (ma 0), .int 0].toArray below meth c H locs 0 0 Q (F0 m 2 ls [])  := by
    intro n
    induction n with
    | zero =>
      intro i fz hin hz H locs ls hP hD hS hl
      have e9 : i = 110 := by omega
      subst e9
      refine lv_iload_n hx hb dX13_standsAsAlways_2 rfl (lv_at hl 0 rfl) ?_
      refine lv_bipush (v := 110) hx hb dX13_standsAsAlways_3 (by decide) ?_
      refine lv_icmp_ge (tgt := 23) hx hb dX13_standsAsAlways_5 (by decide) (fun cx1 => ?_) (fun h9 => absurd (by decide) h9)
      refine lv_aload_n hx hb dX13_standsAsAlways_23 rfl (lv_at hl 1 rfl) ?_
      refine va_get (ci := 10) (v := .ref (ma 10)) (C := RX13) (T := TX13) (N := 42) hx hb hts inX13 hown hK hP 0 rfl rfl 10 (by decide) lf99 (fun _ h9 => h9) rfl dX13_standsAsAlways_24 ?_
      refine lv_iload_n hx hb dX13_standsAsAlways_27 rfl (lv_at hl 2 rfl) ?_
      refine lv_iconst (v := 5) hx hb dX13_standsAsAlways_28 (by decide) ?_
      refine lv_iadd hx hb dX13_standsAsAlways_29 ?_
      refine p_topI (v := 5) (by decide) ?_
      refine lv_iconst (v := (-1)) hx hb dX13_standsAsAlways_30 (by decide) ?_
      refine va_iast hx hb hK hP hD hS 1 1 rfl rfl (show ¬ (_ ∨ _) by decide) dX13_standsAsAlways_31 (fun H locs hP hD hS => ?_)
      have hP : va_P D vwCl [((ma 0), .inr (10, [.int i0, .ref (ma 1), .int i2, .int i3, .ref (ma 4), .ref (ma 5), .ref (ma 6), .int i7, .int i8, .ref (ma 9), .ref (ma 10), .ref (ma 11), .ref (ma 12), .int i13, .ref (ma 14), .ref (ma 15), .int i16, .int i17, .ref (ma 18), .ref (ma 19), .ref (ma 20), .ref (ma 21), .ref (ma 22), .int i23, .ref (ma 24), .int i25, .ref (ma 26), .int i27, .int i28, .int i29, .int i30, .ref (ma 31), .ref (ma 32), .ref (ma 33), .ref (ma 34), .ref (ma 35), .int i36, .int i37, .ref (ma 38), .ref (ma 39), .ref (ma 40), .long i41])), ((ma 10), .inl (k 1, 220, .inl (upd fz 5 (-1))))] H := hP
      have hD : va_D A [((ma 0), .inr (10, [.int i0, .ref (ma 1), .int i2, .int i3, .ref (ma 4), .ref (ma 5), .ref (ma 6), .int i7, .int i8, .ref (ma 9), .ref (ma 10), .ref (ma 11), .ref (ma 12), .int i13, .ref (ma 14), .ref (ma 15), .int i16, .int i17, .ref (ma 18), .ref (ma 19), .ref (ma 20), .ref (ma 21), .ref (ma 22), .int i23, .ref (ma 24), .int i25, .ref (ma 26), .int i27, .int i28, .int i29, .int i30, .ref (ma 31), .ref (ma 32), .ref (ma 33), .ref (ma 34), .ref (ma 35), .int i36, .int i37, .ref (ma 38), .ref (ma 39), .ref (ma 40), .long i41])), ((ma 10), .inl (k 1, 220, .inl (upd fz 5 (-1))))] := hD
      refine lv_aload_n hx hb dX13_standsAsAlways_32 rfl (lv_at hl 1 rfl) ?_
      refine va_get (ci := 10) (v := .ref (ma 10)) (C := RX13) (T := TX13) (N := 42) hx hb hts inX13 hown hK hP 0 rfl rfl 10 (by decide) lf99 (fun _ h9 => h9) rfl dX13_standsAsAlways_33 ?_
      refine lv_iload_n hx hb dX13_standsAsAlways_36 rfl (lv_at hl 2 rfl) ?_
      refine lv_iconst (v := 5) hx hb dX13_standsAsAlways_37 (by decide) ?_
      refine lv_iadd hx hb dX13_standsAsAlways_38 ?_
      refine p_topI (v := 5) (by decide) ?_
      refine lv_iconst (v := 1) hx hb dX13_standsAsAlways_39 (by decide) ?_
      refine lv_iadd hx hb dX13_standsAsAlways_40 ?_
      refine p_topI (v := 6) (by decide) ?_
      refine lv_iconst (v := (-1)) hx hb dX13_standsAsAlways_41 (by decide) ?_
      refine va_iast hx hb hK hP hD hS 1 1 rfl rfl (show ¬ (_ ∨ _) by decide) dX13_standsAsAlways_42 (fun H locs hP hD hS => ?_)
      have hP : va_P D vwCl [((ma 0), .inr (10, [.int i0, .ref (ma 1), .int i2, .int i3, .ref (ma 4), .ref (ma 5), .ref (ma 6), .int i7, .int i8, .ref (ma 9), .ref (ma 10), .ref (ma 11), .ref (ma 12), .int i13, .ref (ma 14), .ref (ma 15), .int i16, .int i17, .ref (ma 18), .ref (ma 19), .ref (ma 20), .ref (ma 21), .ref (ma 22), .int i23, .ref (ma 24), .int i25, .ref (ma 26), .int i27, .int i28, .int i29, .int i30, .ref (ma 31), .ref (ma 32), .ref (ma 33), .ref (ma 34), .ref (ma 35), .int i36, .int i37, .ref (ma 38), .ref (ma 39), .ref (ma 40), .long i41])), ((ma 10), .inl (k 1, 220, .inl (upd (upd fz 5 (-1)) 6 (-1))))] H := hP
      have hD : va_D A [((ma 0), .inr (10, [.int i0, .ref (ma 1), .int i2, .int i3, .ref (ma 4), .ref (ma 5), .ref (ma 6), .int i7, .int i8, .ref (ma 9), .ref (ma 10), .ref (ma 11), .ref (ma 12), .int i13, .ref (ma 14), .ref (ma 15), .int i16, .int i17, .ref (ma 18), .ref (ma 19), .ref (ma 20), .ref (ma 21), .ref (ma 22), .int i23, .ref (ma 24), .int i25, .ref (ma 26), .int i27, .int i28, .int i29, .int i30, .ref (ma 31), .ref (ma 32), .ref (ma 33), .ref (ma 34), .ref (ma 35), .int i36, .int i37, .ref (ma 38), .ref (ma 39), .ref (ma 40), .long i41])), ((ma 10), .inl (k 1, 220, .inl (upd (upd fz 5 (-1)) 6 (-1))))] := hD
      exact hret _ _ _ _ _ _ (upd (upd fz 5 (-1)) 6 (-1)) (by decide) (by decide) dX13_standsAsAlways_43 ⟨(hz 0 (by decide)), (hz 1 (by decide)), (hz 2 (by decide))⟩ (hP.sub [0, 1] rfl) (hD.sub [0, 1] (by decide) rfl) hS
    | succ n ih =>
      intro i fz hin hz H locs ls hP hD hS hl
      refine lv_iload_n hx hb dX13_standsAsAlways_2 rfl (lv_at hl 0 rfl) ?_
      refine lv_bipush (v := 110) hx hb dX13_standsAsAlways_3 (by decide) ?_
      refine lv_icmp_ge (tgt := 23) hx hb dX13_standsAsAlways_5 (by decide) (fun h9 => absurd h9 (nI_ge (a := i) (b := 110) (by omega) (by decide))) (fun cx2 => ?_)
      refine lv_aload_n hx hb dX13_standsAsAlways_8 rfl (lv_at hl 1 rfl) ?_
      refine va_get (ci := 10) (v := .ref (ma 10)) (C := RX13) (T := TX13) (N := 42) hx hb hts inX13 hown hK hP 0 rfl rfl 10 (by decide) lf99 (fun _ h9 => h9) rfl dX13_standsAsAlways_9 ?_
      refine lv_iload_n hx hb dX13_standsAsAlways_12 rfl (lv_at hl 2 rfl) ?_
      refine lv_iload_n hx hb dX13_standsAsAlways_13 rfl (lv_at hl 0 rfl) ?_
      refine lv_iadd hx hb dX13_standsAsAlways_14 ?_
      refine p_topI (v := (nI (0 + i))) (nI_add 0 i) ?_
      refine lv_iconst (v := 0) hx hb dX13_standsAsAlways_15 (by decide) ?_
      refine va_iast hx hb hK hP hD hS 1 1 rfl rfl (vp_in_nI (by omega) (by decide)) dX13_standsAsAlways_16 (fun H locs hP hD hS => ?_)
      have hE : ∃ fx3 : Nat → Int32, va_P D vwCl [((ma 0), .inr (10, [.int i0, .ref (ma 1), .int i2, .int i3, .ref (ma 4), .ref (ma 5), .ref (ma 6), .int i7, .int i8, .ref (ma 9), .ref (ma 10), .ref (ma 11), .ref (ma 12), .int i13, .ref (ma 14), .ref (ma 15), .int i16, .int i17, .ref (ma 18), .ref (ma 19), .ref (ma 20), .ref (ma 21), .ref (ma 22), .int i23, .ref (ma 24), .int i25, .ref (ma 26), .int i27, .int i28, .int i29, .int i30, .ref (ma 31), .ref (ma 32), .ref (ma 33), .ref (ma 34), .ref (ma 35), .int i36, .int i37, .ref (ma 38), .ref (ma 39), .ref (ma 40), .long i41])), ((ma 10), .inl (k 1, 220, .inl fx3))] H ∧ va_D A [((ma 0), .inr (10, [.int i0, .ref (ma 1), .int i2, .int i3, .ref (ma 4), .ref (ma 5), .ref (ma 6), .int i7, .int i8, .ref (ma 9), .ref (ma 10), .ref (ma 11), .ref (ma 12), .int i13, .ref (ma 14), .ref (ma 15), .int i16, .int i17, .ref (ma 18), .ref (ma 19), .ref (ma 20), .ref (ma 21), .ref (ma 22), .int i23, .ref (ma 24), .int i25, .ref (ma 26), .int i27, .int i28, .int i29, .int i30, .ref (ma 31), .ref (ma 32), .ref (ma 33), .ref (ma 34), .ref (ma 35), .int i36, .int i37, .ref (ma 38), .ref (ma 39), .ref (ma 40), .long i41])), ((ma 10), .inl (k 1, 220, .inl fx3))] ∧ (∀ j, j < i + 1 → fx3 j = 0) := ⟨_, hP, hD, p_fill0 hz (by omega)⟩
      obtain ⟨fx3, hP, hD, hx4⟩ := hE
      refine lv_iinc (v := (nI (i + 1))) (lv' := [(2, .int (nI (i + 1))), (0, .ref (ma 0)), (1, .int 0)]) hx hb dX13_standsAsAlways_17 hl (k := 0) rfl (nI_1 i) (by decide) rfl (fun ls hl => ?_)
      refine lv_goto (tgt := 2) hx hb dX13_standsAsAlways_20 (by decide) ?_
      exact ih (i + 1) fx3 (by omega) hx4 _ _ _ (hP.sub [0, 1] rfl) (hD.sub [0, 1] (by decide) rfl) hS (lv_sub hl [0, 1, 2] rfl)
  exact key2 110 0 fl (by decide) (fun j hj => absurd hj (Nat.not_lt_zero j)) _ _ _ (hP.sub [0, 1] rfl) (hD.sub [0, 1] (by decide) rfl) hS (lv_sub hl [0, 1, 2] rfl)
def pw_m_stands_t : List Cond := .code yX13_standsAsAlways cX13_standsAsAlways 3 none :: ([.fieldLink RX13 99 "RiverVowsModel" "lands" "[I"] ++ wsX130)
set_option maxHeartbeats 4000000 in
set_option maxRecDepth 100000 in
theorem c_m_stands_t (l : Launch) (D : va_G) (k : Nat → ClassId) (sz : Nat) (ma : Nat → Nat) (i0 : Int32) (i2 : Int32) (i3 : Int32) (i7 : Int32) (i8 : Int32) (i13 : Int32) (i16 : Int32) (i17 : Int32) (i23 : Int32) (i25 : Int32) (i27 : Int32) (i28 : Int32) (i29 : Int32) (i30 : Int32) (i36 : Int32) (i37 : Int32) (i41 : Int64) (fl : Nat → Int32)  : pMv l yX13_standsAsAlways pw_m_stands_t ({ frames := 0, cells := 0, slots := 0, locals := 0 }) D k [.ref (ma 0), .int 110] [((ma 0), .inr (10, [.int i0, .ref (ma 1), .int i2, .int i3, .ref (ma 4), .ref (ma 5), .ref (ma 6), .int i7, .int i8, .ref (ma 9), .ref (ma 10), .ref (ma 11), .ref (ma 12), .int i13, .ref (ma 14), .ref (ma 15), .int i16, .int i17, .ref (ma 18), .ref (ma 19), .ref (ma 20), .ref (ma 21), .ref (ma 22), .int i23, .ref (ma 24), .int i25, .ref (ma 26), .int i27, .int i28, .int i29, .int i30, .ref (ma 31), .ref (ma 32), .ref (ma 33), .ref (ma 34), .ref (ma 35), .int i36, .int i37, .ref (ma 38), .ref (ma 39), .ref (ma 40), .long i41])), ((ma 10), .inl (k 1, 220, .inl fl))] sz (S := (Nat → Int32)) (fun u => True) (fun u => [((ma 0), .inr (10, [.int i0, .ref (ma 1), .int i2, .int i3, .ref (ma 4), .ref (ma 5), .ref (ma 6), .int i7, .int i8, .ref (ma 9), .ref (ma 10), .ref (ma 11), .ref (ma 12), .int i13, .ref (ma 14), .ref (ma 15), .int i16, .int i17, .ref (ma 18), .ref (ma 19), .ref (ma 20), .ref (ma 21), .ref (ma 22), .int i23, .ref (ma 24), .int i25, .ref (ma 26), .int i27, .int i28, .int i29, .int i30, .ref (ma 31), .ref (ma 32), .ref (ma 33), .ref (ma 34), .ref (ma 35), .int i36, .int i37, .ref (ma 38), .ref (ma 39), .ref (ma 40), .long i41])), ((ma 10), .inl (k 1, 220, .inl u))]) 0 0 := by
  refine p_ofv (cc := cX13_standsAsAlways) (maxL := 3) (by decide) rfl (Nat.le_of_ble_eq_true rfl) ?_
  intro p e s m below meth c hx hb hml hown hts hin hK hN A hA hP hD hS Q hret ls hl
  have hl : lv_has ls 3 [(0, .ref (ma 0)), (1, .int 110)] := hl
  have lf99 := hts (.fieldLink RX13 99 "RiverVowsModel" "lands" "[I") (by decide +kernel)
  have inX13 : ∀ w ∈ wsX130, w ∈ pw_m_stands_t := by decide +kernel
  refine lv_iconst (v := 0) hx hb dX13_standsAsAlways_0 (by decide) ?_
  refine lv_istore_n (lv' := [(2, .int 0), (0, .ref (ma 0)), (1, .int 110)]) hx hb dX13_standsAsAlways_1 rfl hl (by decide) rfl (fun ls hl => ?_)
  have key2 : ∀ (n : Nat) (i : Nat) (fz : Nat → Int32) (hin : i + n = 110) (H : Heap) (locs : List Loc) (ls : Array Slot), va_P D vwCl [((ma 0), .inr (10, [.int i0, .ref (ma 1), .int i2, .int i3, .ref (ma 4), .ref (ma 5), .ref (ma 6), .int i7, .int i8, .ref (ma 9), .ref (ma 10), .ref (ma 11), .ref (ma 12), .int i13, .ref (ma 14), .ref (ma 15), .int i16, .int i17, .ref (ma 18), .ref (ma 19), .ref (ma 20), .ref (ma 21), .ref (ma 22), .int i23, .ref (ma 24), .int i25, .ref (ma 26), .int i27, .int i28, .int i29, .int i30, .ref (ma 31), .ref (ma 32), .ref (ma 33), .ref (ma 34), .ref (ma 35), .int i36, .int i37, .ref (ma 38), .ref (ma 39), .ref (ma 40), .long i41])), ((ma 10), .inl (k 1, 220, .inl fz))] H → va_D A [((ma 0), .inr (10, [.int i0, .ref (ma 1), .int i2, .int i3, .ref (ma 4), .ref (ma 5), .ref (ma 6), .int i7, .int i8, .ref (ma 9), .ref (ma 10), .ref (ma 11), .ref (ma 12), .int i13, .ref (ma 14), .ref (ma 15), .int i16, .int i17, .ref (ma 18), .ref (ma 19), .ref (ma 20), .ref (ma 21), .ref (ma 22), .int i23, .ref (ma 24), .int i25, .ref (ma 26), .int i27, .int i28, .int i29, .int i30, .ref (ma 31), .ref (ma 32), .ref (ma 33), .ref (ma 34), .ref (ma 35), .int i36, .int i37, .ref (ma 38), .ref (ma 39), .ref (ma 40), .long i41])), ((ma 10), .inl (k 1, 220, .inl fz))] → va_S A s.heap H locs → lv_has ls 3 [(2, .int (nI i)), (0, .ref (ma 0)), (1, .int 110)] → W p l e ({ frames := 0, cells := 0, slots := 0, locals := 0 }) s m [.ref (ma 0), .int 110].toArray below meth c H locs 0 0 Q (F0 m 2 ls [])  := by
    intro n
    induction n with
    | zero =>
      intro i fz hin H locs ls hP hD hS hl
      have e9 : i = 110 := by omega
      subst e9
      refine lv_iload_n hx hb dX13_standsAsAlways_2 rfl (lv_at hl 0 rfl) ?_
      refine lv_bipush (v := 110) hx hb dX13_standsAsAlways_3 (by decide) ?_
      refine lv_icmp_ge (tgt := 23) hx hb dX13_standsAsAlways_5 (by decide) (fun cx1 => ?_) (fun h9 => absurd (by decide) h9)
      refine lv_aload_n hx hb dX13_standsAsAlways_23 rfl (lv_at hl 1 rfl) ?_
      refine va_get (ci := 10) (v := .ref (ma 10)) (C := RX13) (T := TX13) (N := 42) hx hb hts inX13 hown hK hP 0 rfl rfl 10 (by decide) lf99 (fun _ h9 => h9) rfl dX13_standsAsAlways_24 ?_
      refine lv_iload_n hx hb dX13_standsAsAlways_27 rfl (lv_at hl 2 rfl) ?_
      refine lv_iconst (v := 5) hx hb dX13_standsAsAlways_28 (by decide) ?_
      refine lv_iadd hx hb dX13_standsAsAlways_29 ?_
      refine p_topI (v := 115) (by decide) ?_
      refine lv_iconst (v := (-1)) hx hb dX13_standsAsAlways_30 (by decide) ?_
      refine va_iast hx hb hK hP hD hS 1 1 rfl rfl (show ¬ (_ ∨ _) by decide) dX13_standsAsAlways_31 (fun H locs hP hD hS => ?_)
      have hE : ∃ fx2 : Nat → Int32, va_P D vwCl [((ma 0), .inr (10, [.int i0, .ref (ma 1), .int i2, .int i3, .ref (ma 4), .ref (ma 5), .ref (ma 6), .int i7, .int i8, .ref (ma 9), .ref (ma 10), .ref (ma 11), .ref (ma 12), .int i13, .ref (ma 14), .ref (ma 15), .int i16, .int i17, .ref (ma 18), .ref (ma 19), .ref (ma 20), .ref (ma 21), .ref (ma 22), .int i23, .ref (ma 24), .int i25, .ref (ma 26), .int i27, .int i28, .int i29, .int i30, .ref (ma 31), .ref (ma 32), .ref (ma 33), .ref (ma 34), .ref (ma 35), .int i36, .int i37, .ref (ma 38), .ref (ma 39), .ref (ma 40), .long i41])), ((ma 10), .inl (k 1, 220, .inl fx2))] H ∧ va_D A [((ma 0), .inr (10, [.int i0, .ref (ma 1), .int i2, .int i3, .ref (ma 4), .ref (ma 5), .ref (ma 6), .int i7, .int i8, .ref (ma 9), .ref (ma 10), .ref (ma 11), .ref (ma 12), .int i13, .ref (ma 14), .ref (ma 15), .int i16, .int i17, .ref (ma 18), .ref (ma 19), .ref (ma 20), .ref (ma 21), .ref (ma 22), .int i23, .ref (ma 24), .int i25, .ref (ma 26), .int i27, .int i28, .int i29, .int i30, .ref (ma 31), .ref (ma 32), .ref (ma 33), .ref (ma 34), .ref (ma 35), .int i36, .int i37, .ref (ma 38), .ref (ma 39), .ref (ma 40), .long i41])), ((ma 10), .inl (k 1, 220, .inl fx2))] := ⟨_, hP, hD⟩
      obtain ⟨fx2, hP, hD⟩ := hE
      refine lv_aload_n hx hb dX13_standsAsAlways_32 rfl (lv_at hl 1 rfl) ?_
      refine va_get (ci := 10) (v := .ref (ma 10)) (C := RX13) (T := TX13) (N := 42) hx hb hts inX13 hown hK hP 0 rfl rfl 10 (by decide) lf99 (fun _ h9 => h9) rfl dX13_standsAsAlways_33 ?_
      refine lv_iload_n hx hb dX13_standsAsAlways_36 rfl (lv_at hl 2 rfl) ?_
      refine lv_iconst (v := 5) hx hb dX13_standsAsAlways_37 (by decide) ?_
      refine lv_iadd hx hb dX13_standsAsAlways_38 ?_
      refine p_topI (v := 115) (by decide) ?_
      refine lv_iconst (v := 1) hx hb dX13_standsAsAlways_39 (by decide) ?_
      refine lv_iadd hx hb dX13_standsAsAlways_40 ?_
      refine p_topI (v := 116) (by decide) ?_
      refine lv_iconst (v := (-1)) hx hb dX13_standsAsAlways_41 (by decide) ?_
      refine va_iast hx hb hK hP hD hS 1 1 rfl rfl (show ¬ (_ ∨ _) by decide) dX13_standsAsAlways_42 (fun H locs hP hD hS => ?_)
      have hE : ∃ fx3 : Nat → Int32, va_P D vwCl [((ma 0), .inr (10, [.int i0, .ref (ma 1), .int i2, .int i3, .ref (ma 4), .ref (ma 5), .ref (ma 6), .int i7, .int i8, .ref (ma 9), .ref (ma 10), .ref (ma 11), .ref (ma 12), .int i13, .ref (ma 14), .ref (ma 15), .int i16, .int i17, .ref (ma 18), .ref (ma 19), .ref (ma 20), .ref (ma 21), .ref (ma 22), .int i23, .ref (ma 24), .int i25, .ref (ma 26), .int i27, .int i28, .int i29, .int i30, .ref (ma 31), .ref (ma 32), .ref (ma 33), .ref (ma 34), .ref (ma 35), .int i36, .int i37, .ref (ma 38), .ref (ma 39), .ref (ma 40), .long i41])), ((ma 10), .inl (k 1, 220, .inl fx3))] H ∧ va_D A [((ma 0), .inr (10, [.int i0, .ref (ma 1), .int i2, .int i3, .ref (ma 4), .ref (ma 5), .ref (ma 6), .int i7, .int i8, .ref (ma 9), .ref (ma 10), .ref (ma 11), .ref (ma 12), .int i13, .ref (ma 14), .ref (ma 15), .int i16, .int i17, .ref (ma 18), .ref (ma 19), .ref (ma 20), .ref (ma 21), .ref (ma 22), .int i23, .ref (ma 24), .int i25, .ref (ma 26), .int i27, .int i28, .int i29, .int i30, .ref (ma 31), .ref (ma 32), .ref (ma 33), .ref (ma 34), .ref (ma 35), .int i36, .int i37, .ref (ma 38), .ref (ma 39), .ref (ma 40), .long i41])), ((ma 10), .inl (k 1, 220, .inl fx3))] := ⟨_, hP, hD⟩
      obtain ⟨fx3, hP, hD⟩ := hE
      exact hret _ _ _ _ _ _ fx3 (by decide) (by decide) dX13_standsAsAlways_43 trivial (hP.sub [0, 1] rfl) (hD.sub [0, 1] (by decide) rfl) hS
    | succ n ih =>
      intro i fz hin H locs ls hP hD hS hl
      refine lv_iload_n hx hb dX13_standsAsAlways_2 rfl (lv_at hl 0 rfl) ?_
      refine lv_bipush (v := 110) hx hb dX13_standsAsAlways_3 (by decide) ?_
      refine lv_icmp_ge (tgt := 23) hx hb dX13_standsAsAlways_5 (by decide) (fun h9 => absurd h9 (nI_ge (a := i) (b := 110) (by omega) (by decide))) (fun cx4 => ?_)
      refine lv_aload_n hx hb dX13_standsAsAlways_8 rfl (lv_at hl 1 rfl) ?_
      refine va_get (ci := 10) (v := .ref (ma 10)) (C := RX13) (T := TX13) (N := 42) hx hb hts inX13 hown hK hP 0 rfl rfl 10 (by decide) lf99 (fun _ h9 => h9) rfl dX13_standsAsAlways_9 ?_
      refine lv_iload_n hx hb dX13_standsAsAlways_12 rfl (lv_at hl 2 rfl) ?_
      refine lv_iload_n hx hb dX13_standsAsAlways_13 rfl (lv_at hl 0 rfl) ?_
      refine lv_iadd hx hb dX13_standsAsAlways_14 ?_
      refine p_topI (v := (nI (110 + i))) (nI_add 110 i) ?_
      refine lv_iconst (v := 0) hx hb dX13_standsAsAlways_15 (by decide) ?_
      refine va_iast hx hb hK hP hD hS 1 1 rfl rfl (vp_in_nI (by omega) (by decide)) dX13_standsAsAlways_16 (fun H locs hP hD hS => ?_)
      have hE : ∃ fx5 : Nat → Int32, va_P D vwCl [((ma 0), .inr (10, [.int i0, .ref (ma 1), .int i2, .int i3, .ref (ma 4), .ref (ma 5), .ref (ma 6), .int i7, .int i8, .ref (ma 9), .ref (ma 10), .ref (ma 11), .ref (ma 12), .int i13, .ref (ma 14), .ref (ma 15), .int i16, .int i17, .ref (ma 18), .ref (ma 19), .ref (ma 20), .ref (ma 21), .ref (ma 22), .int i23, .ref (ma 24), .int i25, .ref (ma 26), .int i27, .int i28, .int i29, .int i30, .ref (ma 31), .ref (ma 32), .ref (ma 33), .ref (ma 34), .ref (ma 35), .int i36, .int i37, .ref (ma 38), .ref (ma 39), .ref (ma 40), .long i41])), ((ma 10), .inl (k 1, 220, .inl fx5))] H ∧ va_D A [((ma 0), .inr (10, [.int i0, .ref (ma 1), .int i2, .int i3, .ref (ma 4), .ref (ma 5), .ref (ma 6), .int i7, .int i8, .ref (ma 9), .ref (ma 10), .ref (ma 11), .ref (ma 12), .int i13, .ref (ma 14), .ref (ma 15), .int i16, .int i17, .ref (ma 18), .ref (ma 19), .ref (ma 20), .ref (ma 21), .ref (ma 22), .int i23, .ref (ma 24), .int i25, .ref (ma 26), .int i27, .int i28, .int i29, .int i30, .ref (ma 31), .ref (ma 32), .ref (ma 33), .ref (ma 34), .ref (ma 35), .int i36, .int i37, .ref (ma 38), .ref (ma 39), .ref (ma 40), .long i41])), ((ma 10), .inl (k 1, 220, .inl fx5))] := ⟨_, hP, hD⟩
      obtain ⟨fx5, hP, hD⟩ := hE
      refine lv_iinc (v := (nI (i + 1))) (lv' := [(2, .int (nI (i + 1))), (0, .ref (ma 0)), (1, .int 110)]) hx hb dX13_standsAsAlways_17 hl (k := 0) rfl (nI_1 i) (by decide) rfl (fun ls hl => ?_)
      refine lv_goto (tgt := 2) hx hb dX13_standsAsAlways_20 (by decide) ?_
      exact ih (i + 1) fx5 (by omega) _ _ _ (hP.sub [0, 1] rfl) (hD.sub [0, 1] (by decide) rfl) hS (lv_sub hl [0, 1, 2] rfl)
  exact key2 110 0 fl (by decide) _ _ _ (hP.sub [0, 1] rfl) (hD.sub [0, 1] (by decide) rfl) hS (lv_sub hl [0, 1, 2] rfl)
def pw_m_copies_1260 : List Cond := .code yX13_copies cX13_copies 5 none :: ([.fieldLink RX13 126 "RiverVowsModel" "state" "[I"] ++ wsX130)
set_option maxHeartbeats 4000000 in
set_option maxRecDepth 100000 in
theorem c_m_copies_1260 (l : Launch) (D : va_G) (k : Nat → ClassId) (sz : Nat) (ma : Nat → Nat) (i0 : Int32) (i2 : Int32) (i3 : Int32) (i7 : Int32) (i8 : Int32) (i13 : Int32) (i16 : Int32) (i17 : Int32) (i23 : Int32) (i25 : Int32) (i27 : Int32) (i28 : Int32) (i29 : Int32) (i30 : Int32) (i36 : Int32) (i37 : Int32) (i41 : Int64) (fs : Nat → Int32) (x0 : Int32) (hs0 : fs 0 = x0) : pMv l yX13_copies pw_m_copies_1260 ({ frames := 0, cells := 0, slots := 0, locals := 0 }) D k [.ref (ma 0), .int 0, .int 1260, .int 19] [((ma 0), .inr (10, [.int i0, .ref (ma 1), .int i2, .int i3, .ref (ma 4), .ref (ma 5), .ref (ma 6), .int i7, .int i8, .ref (ma 9), .ref (ma 10), .ref (ma 11), .ref (ma 12), .int i13, .ref (ma 14), .ref (ma 15), .int i16, .int i17, .ref (ma 18), .ref (ma 19), .ref (ma 20), .ref (ma 21), .ref (ma 22), .int i23, .ref (ma 24), .int i25, .ref (ma 26), .int i27, .int i28, .int i29, .int i30, .ref (ma 31), .ref (ma 32), .ref (ma 33), .ref (ma 34), .ref (ma 35), .int i36, .int i37, .ref (ma 38), .ref (ma 39), .ref (ma 40), .long i41])), ((ma 22), .inl (k 1, 1320, .inl fs))] sz (S := (Nat → Int32)) (fun u => u 0 = x0) (fun u => [((ma 0), .inr (10, [.int i0, .ref (ma 1), .int i2, .int i3, .ref (ma 4), .ref (ma 5), .ref (ma 6), .int i7, .int i8, .ref (ma 9), .ref (ma 10), .ref (ma 11), .ref (ma 12), .int i13, .ref (ma 14), .ref (ma 15), .int i16, .int i17, .ref (ma 18), .ref (ma 19), .ref (ma 20), .ref (ma 21), .ref (ma 22), .int i23, .ref (ma 24), .int i25, .ref (ma 26), .int i27, .int i28, .int i29, .int i30, .ref (ma 31), .ref (ma 32), .ref (ma 33), .ref (ma 34), .ref (ma 35), .int i36, .int i37, .ref (ma 38), .ref (ma 39), .ref (ma 40), .long i41])), ((ma 22), .inl (k 1, 1320, .inl u))]) 0 0 := by
  refine p_ofv (cc := cX13_copies) (maxL := 5) (by decide) rfl (Nat.le_of_ble_eq_true rfl) ?_
  intro p e s m below meth c hx hb hml hown hts hin hK hN A hA hP hD hS Q hret ls hl
  have hl : lv_has ls 5 [(0, .ref (ma 0)), (1, .int 0), (2, .int 1260), (3, .int 19)] := hl
  have lf126 := hts (.fieldLink RX13 126 "RiverVowsModel" "state" "[I") (by decide +kernel)
  have inX13 : ∀ w ∈ wsX130, w ∈ pw_m_copies_1260 := by decide +kernel
  refine lv_iconst (v := 0) hx hb dX13_copies_0 (by decide) ?_
  refine lv_istore (lv' := [(4, .int 0), (0, .ref (ma 0)), (1, .int 0), (2, .int 1260), (3, .int 19)]) hx hb dX13_copies_1 hl (by decide) rfl (fun ls hl => ?_)
  have key3 : ∀ (n : Nat) (i : Nat) (fz : Nat → Int32) (hin : i + n = 19) (hz : fz 0 = x0) (H : Heap) (locs : List Loc) (ls : Array Slot), va_P D vwCl [((ma 0), .inr (10, [.int i0, .ref (ma 1), .int i2, .int i3, .ref (ma 4), .ref (ma 5), .ref (ma 6), .int i7, .int i8, .ref (ma 9), .ref (ma 10), .ref (ma 11), .ref (ma 12), .int i13, .ref (ma 14), .ref (ma 15), .int i16, .int i17, .ref (ma 18), .ref (ma 19), .ref (ma 20), .ref (ma 21), .ref (ma 22), .int i23, .ref (ma 24), .int i25, .ref (ma 26), .int i27, .int i28, .int i29, .int i30, .ref (ma 31), .ref (ma 32), .ref (ma 33), .ref (ma 34), .ref (ma 35), .int i36, .int i37, .ref (ma 38), .ref (ma 39), .ref (ma 40), .long i41])), ((ma 22), .inl (k 1, 1320, .inl fz))] H → va_D A [((ma 0), .inr (10, [.int i0, .ref (ma 1), .int i2, .int i3, .ref (ma 4), .ref (ma 5), .ref (ma 6), .int i7, .int i8, .ref (ma 9), .ref (ma 10), .ref (ma 11), .ref (ma 12), .int i13, .ref (ma 14), .ref (ma 15), .int i16, .int i17, .ref (ma 18), .ref (ma 19), .ref (ma 20), .ref (ma 21), .ref (ma 22), .int i23, .ref (ma 24), .int i25, .ref (ma 26), .int i27, .int i28, .int i29, .int i30, .ref (ma 31), .ref (ma 32), .ref (ma 33), .ref (ma 34), .ref (ma 35), .int i36, .int i37, .ref (ma 38), .ref (ma 39), .ref (ma 40), .long i41])), ((ma 22), .inl (k 1, 1320, .inl fz))] → va_S A s.heap H locs → lv_has ls 5 [(4, .int (nI i)), (0, .ref (ma 0)), (1, .int 0), (2, .int 1260), (3, .int 19)] → W p l e ({ frames := 0, cells := 0, slots := 0, locals := 0 }) s m [.ref (ma 0), .int 0, .int 1260, .int 19].toArray below meth c H locs 0 0 Q (F0 m 3 ls [])  := by
    intro n
    induction n with
    | zero =>
      intro i fz hin hz H locs ls hP hD hS hl
      have e9 : i = 19 := by omega
      subst e9
      refine lv_iload hx hb dX13_copies_3 (lv_at hl 0 rfl) ?_
      refine lv_iload_n hx hb dX13_copies_5 rfl (lv_at hl 4 rfl) ?_
      refine lv_icmp_ge (tgt := 33) hx hb dX13_copies_6 (by decide) (fun cx1 => ?_) (fun h9 => absurd (by decide) h9)
      exact hret _ _ _ _ _ _ fz (by decide) (by decide) dX13_copies_33 hz (hP.sub [0, 1] rfl) (hD.sub [0, 1] (by decide) rfl) hS
    | succ n ih =>
      intro i fz hin hz H locs ls hP hD hS hl
      refine lv_iload hx hb dX13_copies_3 (lv_at hl 0 rfl) ?_
      refine lv_iload_n hx hb dX13_copies_5 rfl (lv_at hl 4 rfl) ?_
      refine lv_icmp_ge (tgt := 33) hx hb dX13_copies_6 (by decide) (fun h9 => absurd h9 (nI_ge (a := i) (b := 19) (by omega) (by decide))) (fun cx2 => ?_)
      refine lv_aload_n hx hb dX13_copies_9 rfl (lv_at hl 1 rfl) ?_
      refine va_get (ci := 10) (v := .ref (ma 22)) (C := RX13) (T := TX13) (N := 42) hx hb hts inX13 hown hK hP 0 rfl rfl 22 (by decide) lf126 (fun _ h9 => h9) rfl dX13_copies_10 ?_
      refine lv_iload_n hx hb dX13_copies_13 rfl (lv_at hl 3 rfl) ?_
      refine lv_iload hx hb dX13_copies_14 (lv_at hl 0 rfl) ?_
      refine lv_iadd hx hb dX13_copies_16 ?_
      refine p_topI (v := (nI (1260 + i))) (nI_add 1260 i) ?_
      refine lv_aload_n hx hb dX13_copies_17 rfl (lv_at hl 1 rfl) ?_
      refine va_get (ci := 10) (v := .ref (ma 22)) (C := RX13) (T := TX13) (N := 42) hx hb hts inX13 hown hK hP 0 rfl rfl 22 (by decide) lf126 (fun _ h9 => h9) rfl dX13_copies_18 ?_
      refine lv_iload_n hx hb dX13_copies_21 rfl (lv_at hl 2 rfl) ?_
      refine lv_iload hx hb dX13_copies_22 (lv_at hl 0 rfl) ?_
      refine lv_iadd hx hb dX13_copies_24 ?_
      refine p_topI (v := (nI (0 + i))) (nI_add 0 i) ?_
      refine va_iald hx hb hK hP 1 1 rfl rfl (vp_in_nI (by omega) (by decide)) dX13_copies_25 ?_
      refine p_topI (v := (fz (0 + i))) (congrArg fz (nI_clamp (by omega))) ?_
      refine va_iast hx hb hK hP hD hS 1 1 rfl rfl (vp_in_nI (by omega) (by decide)) dX13_copies_26 (fun H locs hP hD hS => ?_)
      have hE : ∃ fx3 : Nat → Int32, va_P D vwCl [((ma 0), .inr (10, [.int i0, .ref (ma 1), .int i2, .int i3, .ref (ma 4), .ref (ma 5), .ref (ma 6), .int i7, .int i8, .ref (ma 9), .ref (ma 10), .ref (ma 11), .ref (ma 12), .int i13, .ref (ma 14), .ref (ma 15), .int i16, .int i17, .ref (ma 18), .ref (ma 19), .ref (ma 20), .ref (ma 21), .ref (ma 22), .int i23, .ref (ma 24), .int i25, .ref (ma 26), .int i27, .int i28, .int i29, .int i30, .ref (ma 31), .ref (ma 32), .ref (ma 33), .ref (ma 34), .ref (ma 35), .int i36, .int i37, .ref (ma 38), .ref (ma 39), .ref (ma 40), .long i41])), ((ma 22), .inl (k 1, 1320, .inl fx3))] H ∧ va_D A [((ma 0), .inr (10, [.int i0, .ref (ma 1), .int i2, .int i3, .ref (ma 4), .ref (ma 5), .ref (ma 6), .int i7, .int i8, .ref (ma 9), .ref (ma 10), .ref (ma 11), .ref (ma 12), .int i13, .ref (ma 14), .ref (ma 15), .int i16, .int i17, .ref (ma 18), .ref (ma 19), .ref (ma 20), .ref (ma 21), .ref (ma 22), .int i23, .ref (ma 24), .int i25, .ref (ma 26), .int i27, .int i28, .int i29, .int i30, .ref (ma 31), .ref (ma 32), .ref (ma 33), .ref (ma 34), .ref (ma 35), .int i36, .int i37, .ref (ma 38), .ref (ma 39), .ref (ma 40), .long i41])), ((ma 22), .inl (k 1, 1320, .inl fx3))] ∧ (fx3 0 = x0) := ⟨_, hP, hD, ((p_upd0 (a := 1260 + i) (by omega) (by omega)).trans hz)⟩
      obtain ⟨fx3, hP, hD, hx4⟩ := hE
      refine lv_iinc (v := (nI (i + 1))) (lv' := [(4, .int (nI (i + 1))), (0, .ref (ma 0)), (1, .int 0), (2, .int 1260), (3, .int 19)]) hx hb dX13_copies_27 hl (k := 0) rfl (nI_1 i) (by decide) rfl (fun ls hl => ?_)
      refine lv_goto (tgt := 3) hx hb dX13_copies_30 (by decide) ?_
      exact ih (i + 1) fx3 (by omega) hx4 _ _ _ (hP.sub [0, 1] rfl) (hD.sub [0, 1] (by decide) rfl) hS (lv_sub hl [0, 1, 2, 3, 4] rfl)
  exact key3 19 0 fs (by decide) hs0 _ _ _ (hP.sub [0, 1] rfl) (hD.sub [0, 1] (by decide) rfl) hS (lv_sub hl [0, 1, 2, 3, 4] rfl)
def pw_m_copies_300 : List Cond := .code yX13_copies cX13_copies 5 none :: ([.fieldLink RX13 126 "RiverVowsModel" "state" "[I"] ++ wsX130)
set_option maxHeartbeats 4000000 in
set_option maxRecDepth 100000 in
theorem c_m_copies_300 (l : Launch) (D : va_G) (k : Nat → ClassId) (sz : Nat) (ma : Nat → Nat) (i0 : Int32) (i2 : Int32) (i3 : Int32) (i7 : Int32) (i8 : Int32) (i13 : Int32) (i16 : Int32) (i17 : Int32) (i23 : Int32) (i25 : Int32) (i27 : Int32) (i28 : Int32) (i29 : Int32) (i30 : Int32) (i36 : Int32) (i37 : Int32) (i41 : Int64) (fs : Nat → Int32) (x0 : Int32) (hs0 : fs 0 = x0) : pMv l yX13_copies pw_m_copies_300 ({ frames := 0, cells := 0, slots := 0, locals := 0 }) D k [.ref (ma 0), .int 0, .int 300, .int 19] [((ma 0), .inr (10, [.int i0, .ref (ma 1), .int i2, .int i3, .ref (ma 4), .ref (ma 5), .ref (ma 6), .int i7, .int i8, .ref (ma 9), .ref (ma 10), .ref (ma 11), .ref (ma 12), .int i13, .ref (ma 14), .ref (ma 15), .int i16, .int i17, .ref (ma 18), .ref (ma 19), .ref (ma 20), .ref (ma 21), .ref (ma 22), .int i23, .ref (ma 24), .int i25, .ref (ma 26), .int i27, .int i28, .int i29, .int i30, .ref (ma 31), .ref (ma 32), .ref (ma 33), .ref (ma 34), .ref (ma 35), .int i36, .int i37, .ref (ma 38), .ref (ma 39), .ref (ma 40), .long i41])), ((ma 22), .inl (k 1, 1320, .inl fs))] sz (S := (Nat → Int32)) (fun u => u 0 = x0) (fun u => [((ma 0), .inr (10, [.int i0, .ref (ma 1), .int i2, .int i3, .ref (ma 4), .ref (ma 5), .ref (ma 6), .int i7, .int i8, .ref (ma 9), .ref (ma 10), .ref (ma 11), .ref (ma 12), .int i13, .ref (ma 14), .ref (ma 15), .int i16, .int i17, .ref (ma 18), .ref (ma 19), .ref (ma 20), .ref (ma 21), .ref (ma 22), .int i23, .ref (ma 24), .int i25, .ref (ma 26), .int i27, .int i28, .int i29, .int i30, .ref (ma 31), .ref (ma 32), .ref (ma 33), .ref (ma 34), .ref (ma 35), .int i36, .int i37, .ref (ma 38), .ref (ma 39), .ref (ma 40), .long i41])), ((ma 22), .inl (k 1, 1320, .inl u))]) 0 0 := by
  refine p_ofv (cc := cX13_copies) (maxL := 5) (by decide) rfl (Nat.le_of_ble_eq_true rfl) ?_
  intro p e s m below meth c hx hb hml hown hts hin hK hN A hA hP hD hS Q hret ls hl
  have hl : lv_has ls 5 [(0, .ref (ma 0)), (1, .int 0), (2, .int 300), (3, .int 19)] := hl
  have lf126 := hts (.fieldLink RX13 126 "RiverVowsModel" "state" "[I") (by decide +kernel)
  have inX13 : ∀ w ∈ wsX130, w ∈ pw_m_copies_300 := by decide +kernel
  refine lv_iconst (v := 0) hx hb dX13_copies_0 (by decide) ?_
  refine lv_istore (lv' := [(4, .int 0), (0, .ref (ma 0)), (1, .int 0), (2, .int 300), (3, .int 19)]) hx hb dX13_copies_1 hl (by decide) rfl (fun ls hl => ?_)
  have key3 : ∀ (n : Nat) (i : Nat) (fz : Nat → Int32) (hin : i + n = 19) (hz : fz 0 = x0) (H : Heap) (locs : List Loc) (ls : Array Slot), va_P D vwCl [((ma 0), .inr (10, [.int i0, .ref (ma 1), .int i2, .int i3, .ref (ma 4), .ref (ma 5), .ref (ma 6), .int i7, .int i8, .ref (ma 9), .ref (ma 10), .ref (ma 11), .ref (ma 12), .int i13, .ref (ma 14), .ref (ma 15), .int i16, .int i17, .ref (ma 18), .ref (ma 19), .ref (ma 20), .ref (ma 21), .ref (ma 22), .int i23, .ref (ma 24), .int i25, .ref (ma 26), .int i27, .int i28, .int i29, .int i30, .ref (ma 31), .ref (ma 32), .ref (ma 33), .ref (ma 34), .ref (ma 35), .int i36, .int i37, .ref (ma 38), .ref (ma 39), .ref (ma 40), .long i41])), ((ma 22), .inl (k 1, 1320, .inl fz))] H → va_D A [((ma 0), .inr (10, [.int i0, .ref (ma 1), .int i2, .int i3, .ref (ma 4), .ref (ma 5), .ref (ma 6), .int i7, .int i8, .ref (ma 9), .ref (ma 10), .ref (ma 11), .ref (ma 12), .int i13, .ref (ma 14), .ref (ma 15), .int i16, .int i17, .ref (ma 18), .ref (ma 19), .ref (ma 20), .ref (ma 21), .ref (ma 22), .int i23, .ref (ma 24), .int i25, .ref (ma 26), .int i27, .int i28, .int i29, .int i30, .ref (ma 31), .ref (ma 32), .ref (ma 33), .ref (ma 34), .ref (ma 35), .int i36, .int i37, .ref (ma 38), .ref (ma 39), .ref (ma 40), .long i41])), ((ma 22), .inl (k 1, 1320, .inl fz))] → va_S A s.heap H locs → lv_has ls 5 [(4, .int (nI i)), (0, .ref (ma 0)), (1, .int 0), (2, .int 300), (3, .int 19)] → W p l e ({ frames := 0, cells := 0, slots := 0, locals := 0 }) s m [.ref (ma 0), .int 0, .int 300, .int 19].toArray below meth c H locs 0 0 Q (F0 m 3 ls [])  := by
    intro n
    induction n with
    | zero =>
      intro i fz hin hz H locs ls hP hD hS hl
      have e9 : i = 19 := by omega
      subst e9
      refine lv_iload hx hb dX13_copies_3 (lv_at hl 0 rfl) ?_
      refine lv_iload_n hx hb dX13_copies_5 rfl (lv_at hl 4 rfl) ?_
      refine lv_icmp_ge (tgt := 33) hx hb dX13_copies_6 (by decide) (fun cx1 => ?_) (fun h9 => absurd (by decide) h9)
      exact hret _ _ _ _ _ _ fz (by decide) (by decide) dX13_copies_33 hz (hP.sub [0, 1] rfl) (hD.sub [0, 1] (by decide) rfl) hS
    | succ n ih =>
      intro i fz hin hz H locs ls hP hD hS hl
      refine lv_iload hx hb dX13_copies_3 (lv_at hl 0 rfl) ?_
      refine lv_iload_n hx hb dX13_copies_5 rfl (lv_at hl 4 rfl) ?_
      refine lv_icmp_ge (tgt := 33) hx hb dX13_copies_6 (by decide) (fun h9 => absurd h9 (nI_ge (a := i) (b := 19) (by omega) (by decide))) (fun cx2 => ?_)
      refine lv_aload_n hx hb dX13_copies_9 rfl (lv_at hl 1 rfl) ?_
      refine va_get (ci := 10) (v := .ref (ma 22)) (C := RX13) (T := TX13) (N := 42) hx hb hts inX13 hown hK hP 0 rfl rfl 22 (by decide) lf126 (fun _ h9 => h9) rfl dX13_copies_10 ?_
      refine lv_iload_n hx hb dX13_copies_13 rfl (lv_at hl 3 rfl) ?_
      refine lv_iload hx hb dX13_copies_14 (lv_at hl 0 rfl) ?_
      refine lv_iadd hx hb dX13_copies_16 ?_
      refine p_topI (v := (nI (300 + i))) (nI_add 300 i) ?_
      refine lv_aload_n hx hb dX13_copies_17 rfl (lv_at hl 1 rfl) ?_
      refine va_get (ci := 10) (v := .ref (ma 22)) (C := RX13) (T := TX13) (N := 42) hx hb hts inX13 hown hK hP 0 rfl rfl 22 (by decide) lf126 (fun _ h9 => h9) rfl dX13_copies_18 ?_
      refine lv_iload_n hx hb dX13_copies_21 rfl (lv_at hl 2 rfl) ?_
      refine lv_iload hx hb dX13_copies_22 (lv_at hl 0 rfl) ?_
      refine lv_iadd hx hb dX13_copies_24 ?_
      refine p_topI (v := (nI (0 + i))) (nI_add 0 i) ?_
      refine va_iald hx hb hK hP 1 1 rfl rfl (vp_in_nI (by omega) (by decide)) dX13_copies_25 ?_
      refine p_topI (v := (fz (0 + i))) (congrArg fz (nI_clamp (by omega))) ?_
      refine va_iast hx hb hK hP hD hS 1 1 rfl rfl (vp_in_nI (by omega) (by decide)) dX13_copies_26 (fun H locs hP hD hS => ?_)
      have hE : ∃ fx3 : Nat → Int32, va_P D vwCl [((ma 0), .inr (10, [.int i0, .ref (ma 1), .int i2, .int i3, .ref (ma 4), .ref (ma 5), .ref (ma 6), .int i7, .int i8, .ref (ma 9), .ref (ma 10), .ref (ma 11), .ref (ma 12), .int i13, .ref (ma 14), .ref (ma 15), .int i16, .int i17, .ref (ma 18), .ref (ma 19), .ref (ma 20), .ref (ma 21), .ref (ma 22), .int i23, .ref (ma 24), .int i25, .ref (ma 26), .int i27, .int i28, .int i29, .int i30, .ref (ma 31), .ref (ma 32), .ref (ma 33), .ref (ma 34), .ref (ma 35), .int i36, .int i37, .ref (ma 38), .ref (ma 39), .ref (ma 40), .long i41])), ((ma 22), .inl (k 1, 1320, .inl fx3))] H ∧ va_D A [((ma 0), .inr (10, [.int i0, .ref (ma 1), .int i2, .int i3, .ref (ma 4), .ref (ma 5), .ref (ma 6), .int i7, .int i8, .ref (ma 9), .ref (ma 10), .ref (ma 11), .ref (ma 12), .int i13, .ref (ma 14), .ref (ma 15), .int i16, .int i17, .ref (ma 18), .ref (ma 19), .ref (ma 20), .ref (ma 21), .ref (ma 22), .int i23, .ref (ma 24), .int i25, .ref (ma 26), .int i27, .int i28, .int i29, .int i30, .ref (ma 31), .ref (ma 32), .ref (ma 33), .ref (ma 34), .ref (ma 35), .int i36, .int i37, .ref (ma 38), .ref (ma 39), .ref (ma 40), .long i41])), ((ma 22), .inl (k 1, 1320, .inl fx3))] ∧ (fx3 0 = x0) := ⟨_, hP, hD, ((p_upd0 (a := 300 + i) (by omega) (by omega)).trans hz)⟩
      obtain ⟨fx3, hP, hD, hx4⟩ := hE
      refine lv_iinc (v := (nI (i + 1))) (lv' := [(4, .int (nI (i + 1))), (0, .ref (ma 0)), (1, .int 0), (2, .int 300), (3, .int 19)]) hx hb dX13_copies_27 hl (k := 0) rfl (nI_1 i) (by decide) rfl (fun ls hl => ?_)
      refine lv_goto (tgt := 3) hx hb dX13_copies_30 (by decide) ?_
      exact ih (i + 1) fx3 (by omega) hx4 _ _ _ (hP.sub [0, 1] rfl) (hD.sub [0, 1] (by decide) rfl) hS (lv_sub hl [0, 1, 2, 3, 4] rfl)
  exact key3 19 0 fs (by decide) hs0 _ _ _ (hP.sub [0, 1] rfl) (hD.sub [0, 1] (by decide) rfl) hS (lv_sub hl [0, 1, 2, 3, 4] rfl)
def pw_m_copies_60 : List Cond := .code yX13_copies cX13_copies 5 none :: ([.fieldLink RX13 126 "RiverVowsModel" "state" "[I"] ++ wsX130)
set_option maxHeartbeats 4000000 in
set_option maxRecDepth 100000 in
theorem c_m_copies_60 (l : Launch) (D : va_G) (k : Nat → ClassId) (sz : Nat) (ma : Nat → Nat) (i0 : Int32) (i2 : Int32) (i3 : Int32) (i7 : Int32) (i8 : Int32) (i13 : Int32) (i16 : Int32) (i17 : Int32) (i23 : Int32) (i25 : Int32) (i27 : Int32) (i28 : Int32) (i29 : Int32) (i30 : Int32) (i36 : Int32) (i37 : Int32) (i41 : Int64) (fs : Nat → Int32) (x0 : Int32) (hs0 : fs 0 = x0) : pMv l yX13_copies pw_m_copies_60 ({ frames := 0, cells := 0, slots := 0, locals := 0 }) D k [.ref (ma 0), .int 0, .int 60, .int 60] [((ma 0), .inr (10, [.int i0, .ref (ma 1), .int i2, .int i3, .ref (ma 4), .ref (ma 5), .ref (ma 6), .int i7, .int i8, .ref (ma 9), .ref (ma 10), .ref (ma 11), .ref (ma 12), .int i13, .ref (ma 14), .ref (ma 15), .int i16, .int i17, .ref (ma 18), .ref (ma 19), .ref (ma 20), .ref (ma 21), .ref (ma 22), .int i23, .ref (ma 24), .int i25, .ref (ma 26), .int i27, .int i28, .int i29, .int i30, .ref (ma 31), .ref (ma 32), .ref (ma 33), .ref (ma 34), .ref (ma 35), .int i36, .int i37, .ref (ma 38), .ref (ma 39), .ref (ma 40), .long i41])), ((ma 22), .inl (k 1, 1320, .inl fs))] sz (S := (Nat → Int32)) (fun u => u 0 = x0) (fun u => [((ma 0), .inr (10, [.int i0, .ref (ma 1), .int i2, .int i3, .ref (ma 4), .ref (ma 5), .ref (ma 6), .int i7, .int i8, .ref (ma 9), .ref (ma 10), .ref (ma 11), .ref (ma 12), .int i13, .ref (ma 14), .ref (ma 15), .int i16, .int i17, .ref (ma 18), .ref (ma 19), .ref (ma 20), .ref (ma 21), .ref (ma 22), .int i23, .ref (ma 24), .int i25, .ref (ma 26), .int i27, .int i28, .int i29, .int i30, .ref (ma 31), .ref (ma 32), .ref (ma 33), .ref (ma 34), .ref (ma 35), .int i36, .int i37, .ref (ma 38), .ref (ma 39), .ref (ma 40), .long i41])), ((ma 22), .inl (k 1, 1320, .inl u))]) 0 0 := by
  refine p_ofv (cc := cX13_copies) (maxL := 5) (by decide) rfl (Nat.le_of_ble_eq_true rfl) ?_
  intro p e s m below meth c hx hb hml hown hts hin hK hN A hA hP hD hS Q hret ls hl
  have hl : lv_has ls 5 [(0, .ref (ma 0)), (1, .int 0), (2, .int 60), (3, .int 60)] := hl
  have lf126 := hts (.fieldLink RX13 126 "RiverVowsModel" "state" "[I") (by decide +kernel)
  have inX13 : ∀ w ∈ wsX130, w ∈ pw_m_copies_60 := by decide +kernel
  refine lv_iconst (v := 0) hx hb dX13_copies_0 (by decide) ?_
  refine lv_istore (lv' := [(4, .int 0), (0, .ref (ma 0)), (1, .int 0), (2, .int 60), (3, .int 60)]) hx hb dX13_copies_1 hl (by decide) rfl (fun ls hl => ?_)
  have key3 : ∀ (n : Nat) (i : Nat) (fz : Nat → Int32) (hin : i + n = 60) (hz : fz 0 = x0) (H : Heap) (locs : List Loc) (ls : Array Slot), va_P D vwCl [((ma 0), .inr (10, [.int i0, .ref (ma 1), .int i2, .int i3, .ref (ma 4), .ref (ma 5), .ref (ma 6), .int i7, .int i8, .ref (ma 9), .ref (ma 10), .ref (ma 11), .ref (ma 12), .int i13, .ref (ma 14), .ref (ma 15), .int i16, .int i17, .ref (ma 18), .ref (ma 19), .ref (ma 20), .ref (ma 21), .ref (ma 22), .int i23, .ref (ma 24), .int i25, .ref (ma 26), .int i27, .int i28, .int i29, .int i30, .ref (ma 31), .ref (ma 32), .ref (ma 33), .ref (ma 34), .ref (ma 35), .int i36, .int i37, .ref (ma 38), .ref (ma 39), .ref (ma 40), .long i41])), ((ma 22), .inl (k 1, 1320, .inl fz))] H → va_D A [((ma 0), .inr (10, [.int i0, .ref (ma 1), .int i2, .int i3, .ref (ma 4), .ref (ma 5), .ref (ma 6), .int i7, .int i8, .ref (ma 9), .ref (ma 10), .ref (ma 11), .ref (ma 12), .int i13, .ref (ma 14), .ref (ma 15), .int i16, .int i17, .ref (ma 18), .ref (ma 19), .ref (ma 20), .ref (ma 21), .ref (ma 22), .int i23, .ref (ma 24), .int i25, .ref (ma 26), .int i27, .int i28, .int i29, .int i30, .ref (ma 31), .ref (ma 32), .ref (ma 33), .ref (ma 34), .ref (ma 35), .int i36, .int i37, .ref (ma 38), .ref (ma 39), .ref (ma 40), .long i41])), ((ma 22), .inl (k 1, 1320, .inl fz))] → va_S A s.heap H locs → lv_has ls 5 [(4, .int (nI i)), (0, .ref (ma 0)), (1, .int 0), (2, .int 60), (3, .int 60)] → W p l e ({ frames := 0, cells := 0, slots := 0, locals := 0 }) s m [.ref (ma 0), .int 0, .int 60, .int 60].toArray below meth c H locs 0 0 Q (F0 m 3 ls [])  := by
    intro n
    induction n with
    | zero =>
      intro i fz hin hz H locs ls hP hD hS hl
      have e9 : i = 60 := by omega
      subst e9
      refine lv_iload hx hb dX13_copies_3 (lv_at hl 0 rfl) ?_
      refine lv_iload_n hx hb dX13_copies_5 rfl (lv_at hl 4 rfl) ?_
      refine lv_icmp_ge (tgt := 33) hx hb dX13_copies_6 (by decide) (fun cx1 => ?_) (fun h9 => absurd (by decide) h9)
      exact hret _ _ _ _ _ _ fz (by decide) (by decide) dX13_copies_33 hz (hP.sub [0, 1] rfl) (hD.sub [0, 1] (by decide) rfl) hS
    | succ n ih =>
      intro i fz hin hz H locs ls hP hD hS hl
      refine lv_iload hx hb dX13_copies_3 (lv_at hl 0 rfl) ?_
      refine lv_iload_n hx hb dX13_copies_5 rfl (lv_at hl 4 rfl) ?_
      refine lv_icmp_ge (tgt := 33) hx hb dX13_copies_6 (by decide) (fun h9 => absurd h9 (nI_ge (a := i) (b := 60) (by omega) (by decide))) (fun cx2 => ?_)
      refine lv_aload_n hx hb dX13_copies_9 rfl (lv_at hl 1 rfl) ?_
      refine va_get (ci := 10) (v := .ref (ma 22)) (C := RX13) (T := TX13) (N := 42) hx hb hts inX13 hown hK hP 0 rfl rfl 22 (by decide) lf126 (fun _ h9 => h9) rfl dX13_copies_10 ?_
      refine lv_iload_n hx hb dX13_copies_13 rfl (lv_at hl 3 rfl) ?_
      refine lv_iload hx hb dX13_copies_14 (lv_at hl 0 rfl) ?_
      refine lv_iadd hx hb dX13_copies_16 ?_
      refine p_topI (v := (nI (60 + i))) (nI_add 60 i) ?_
      refine lv_aload_n hx hb dX13_copies_17 rfl (lv_at hl 1 rfl) ?_
      refine va_get (ci := 10) (v := .ref (ma 22)) (C := RX13) (T := TX13) (N := 42) hx hb hts inX13 hown hK hP 0 rfl rfl 22 (by decide) lf126 (fun _ h9 => h9) rfl dX13_copies_18 ?_
      refine lv_iload_n hx hb dX13_copies_21 rfl (lv_at hl 2 rfl) ?_
      refine lv_iload hx hb dX13_copies_22 (lv_at hl 0 rfl) ?_
      refine lv_iadd hx hb dX13_copies_24 ?_
      refine p_topI (v := (nI (0 + i))) (nI_add 0 i) ?_
      refine va_iald hx hb hK hP 1 1 rfl rfl (vp_in_nI (by omega) (by decide)) dX13_copies_25 ?_
      refine p_topI (v := (fz (0 + i))) (congrArg fz (nI_clamp (by omega))) ?_
      refine va_iast hx hb hK hP hD hS 1 1 rfl rfl (vp_in_nI (by omega) (by decide)) dX13_copies_26 (fun H locs hP hD hS => ?_)
      have hE : ∃ fx3 : Nat → Int32, va_P D vwCl [((ma 0), .inr (10, [.int i0, .ref (ma 1), .int i2, .int i3, .ref (ma 4), .ref (ma 5), .ref (ma 6), .int i7, .int i8, .ref (ma 9), .ref (ma 10), .ref (ma 11), .ref (ma 12), .int i13, .ref (ma 14), .ref (ma 15), .int i16, .int i17, .ref (ma 18), .ref (ma 19), .ref (ma 20), .ref (ma 21), .ref (ma 22), .int i23, .ref (ma 24), .int i25, .ref (ma 26), .int i27, .int i28, .int i29, .int i30, .ref (ma 31), .ref (ma 32), .ref (ma 33), .ref (ma 34), .ref (ma 35), .int i36, .int i37, .ref (ma 38), .ref (ma 39), .ref (ma 40), .long i41])), ((ma 22), .inl (k 1, 1320, .inl fx3))] H ∧ va_D A [((ma 0), .inr (10, [.int i0, .ref (ma 1), .int i2, .int i3, .ref (ma 4), .ref (ma 5), .ref (ma 6), .int i7, .int i8, .ref (ma 9), .ref (ma 10), .ref (ma 11), .ref (ma 12), .int i13, .ref (ma 14), .ref (ma 15), .int i16, .int i17, .ref (ma 18), .ref (ma 19), .ref (ma 20), .ref (ma 21), .ref (ma 22), .int i23, .ref (ma 24), .int i25, .ref (ma 26), .int i27, .int i28, .int i29, .int i30, .ref (ma 31), .ref (ma 32), .ref (ma 33), .ref (ma 34), .ref (ma 35), .int i36, .int i37, .ref (ma 38), .ref (ma 39), .ref (ma 40), .long i41])), ((ma 22), .inl (k 1, 1320, .inl fx3))] ∧ (fx3 0 = x0) := ⟨_, hP, hD, ((p_upd0 (a := 60 + i) (by omega) (by omega)).trans hz)⟩
      obtain ⟨fx3, hP, hD, hx4⟩ := hE
      refine lv_iinc (v := (nI (i + 1))) (lv' := [(4, .int (nI (i + 1))), (0, .ref (ma 0)), (1, .int 0), (2, .int 60), (3, .int 60)]) hx hb dX13_copies_27 hl (k := 0) rfl (nI_1 i) (by decide) rfl (fun ls hl => ?_)
      refine lv_goto (tgt := 3) hx hb dX13_copies_30 (by decide) ?_
      exact ih (i + 1) fx3 (by omega) hx4 _ _ _ (hP.sub [0, 1] rfl) (hD.sub [0, 1] (by decide) rfl) hS (lv_sub hl [0, 1, 2, 3, 4] rfl)
  exact key3 60 0 fs (by decide) hs0 _ _ _ (hP.sub [0, 1] rfl) (hD.sub [0, 1] (by decide) rfl) hS (lv_sub hl [0, 1, 2, 3, 4] rfl)
def pw_m_copies_120 : List Cond := .code yX13_copies cX13_copies 5 none :: ([.fieldLink RX13 126 "RiverVowsModel" "state" "[I"] ++ wsX130)
set_option maxHeartbeats 4000000 in
set_option maxRecDepth 100000 in
theorem c_m_copies_120 (l : Launch) (D : va_G) (k : Nat → ClassId) (sz : Nat) (ma : Nat → Nat) (i0 : Int32) (i2 : Int32) (i3 : Int32) (i7 : Int32) (i8 : Int32) (i13 : Int32) (i16 : Int32) (i17 : Int32) (i23 : Int32) (i25 : Int32) (i27 : Int32) (i28 : Int32) (i29 : Int32) (i30 : Int32) (i36 : Int32) (i37 : Int32) (i41 : Int64) (fs : Nat → Int32) (x0 : Int32) (hs0 : fs 0 = x0) : pMv l yX13_copies pw_m_copies_120 ({ frames := 0, cells := 0, slots := 0, locals := 0 }) D k [.ref (ma 0), .int 0, .int 120, .int 60] [((ma 0), .inr (10, [.int i0, .ref (ma 1), .int i2, .int i3, .ref (ma 4), .ref (ma 5), .ref (ma 6), .int i7, .int i8, .ref (ma 9), .ref (ma 10), .ref (ma 11), .ref (ma 12), .int i13, .ref (ma 14), .ref (ma 15), .int i16, .int i17, .ref (ma 18), .ref (ma 19), .ref (ma 20), .ref (ma 21), .ref (ma 22), .int i23, .ref (ma 24), .int i25, .ref (ma 26), .int i27, .int i28, .int i29, .int i30, .ref (ma 31), .ref (ma 32), .ref (ma 33), .ref (ma 34), .ref (ma 35), .int i36, .int i37, .ref (ma 38), .ref (ma 39), .ref (ma 40), .long i41])), ((ma 22), .inl (k 1, 1320, .inl fs))] sz (S := (Nat → Int32)) (fun u => u 0 = x0) (fun u => [((ma 0), .inr (10, [.int i0, .ref (ma 1), .int i2, .int i3, .ref (ma 4), .ref (ma 5), .ref (ma 6), .int i7, .int i8, .ref (ma 9), .ref (ma 10), .ref (ma 11), .ref (ma 12), .int i13, .ref (ma 14), .ref (ma 15), .int i16, .int i17, .ref (ma 18), .ref (ma 19), .ref (ma 20), .ref (ma 21), .ref (ma 22), .int i23, .ref (ma 24), .int i25, .ref (ma 26), .int i27, .int i28, .int i29, .int i30, .ref (ma 31), .ref (ma 32), .ref (ma 33), .ref (ma 34), .ref (ma 35), .int i36, .int i37, .ref (ma 38), .ref (ma 39), .ref (ma 40), .long i41])), ((ma 22), .inl (k 1, 1320, .inl u))]) 0 0 := by
  refine p_ofv (cc := cX13_copies) (maxL := 5) (by decide) rfl (Nat.le_of_ble_eq_true rfl) ?_
  intro p e s m below meth c hx hb hml hown hts hin hK hN A hA hP hD hS Q hret ls hl
  have hl : lv_has ls 5 [(0, .ref (ma 0)), (1, .int 0), (2, .int 120), (3, .int 60)] := hl
  have lf126 := hts (.fieldLink RX13 126 "RiverVowsModel" "state" "[I") (by decide +kernel)
  have inX13 : ∀ w ∈ wsX130, w ∈ pw_m_copies_120 := by decide +kernel
  refine lv_iconst (v := 0) hx hb dX13_copies_0 (by decide) ?_
  refine lv_istore (lv' := [(4, .int 0), (0, .ref (ma 0)), (1, .int 0), (2, .int 120), (3, .int 60)]) hx hb dX13_copies_1 hl (by decide) rfl (fun ls hl => ?_)
  have key3 : ∀ (n : Nat) (i : Nat) (fz : Nat → Int32) (hin : i + n = 60) (hz : fz 0 = x0) (H : Heap) (locs : List Loc) (ls : Array Slot), va_P D vwCl [((ma 0), .inr (10, [.int i0, .ref (ma 1), .int i2, .int i3, .ref (ma 4), .ref (ma 5), .ref (ma 6), .int i7, .int i8, .ref (ma 9), .ref (ma 10), .ref (ma 11), .ref (ma 12), .int i13, .ref (ma 14), .ref (ma 15), .int i16, .int i17, .ref (ma 18), .ref (ma 19), .ref (ma 20), .ref (ma 21), .ref (ma 22), .int i23, .ref (ma 24), .int i25, .ref (ma 26), .int i27, .int i28, .int i29, .int i30, .ref (ma 31), .ref (ma 32), .ref (ma 33), .ref (ma 34), .ref (ma 35), .int i36, .int i37, .ref (ma 38), .ref (ma 39), .ref (ma 40), .long i41])), ((ma 22), .inl (k 1, 1320, .inl fz))] H → va_D A [((ma 0), .inr (10, [.int i0, .ref (ma 1), .int i2, .int i3, .ref (ma 4), .ref (ma 5), .ref (ma 6), .int i7, .int i8, .ref (ma 9), .ref (ma 10), .ref (ma 11), .ref (ma 12), .int i13, .ref (ma 14), .ref (ma 15), .int i16, .int i17, .ref (ma 18), .ref (ma 19), .ref (ma 20), .ref (ma 21), .ref (ma 22), .int i23, .ref (ma 24), .int i25, .ref (ma 26), .int i27, .int i28, .int i29, .int i30, .ref (ma 31), .ref (ma 32), .ref (ma 33), .ref (ma 34), .ref (ma 35), .int i36, .int i37, .ref (ma 38), .ref (ma 39), .ref (ma 40), .long i41])), ((ma 22), .inl (k 1, 1320, .inl fz))] → va_S A s.heap H locs → lv_has ls 5 [(4, .int (nI i)), (0, .ref (ma 0)), (1, .int 0), (2, .int 120), (3, .int 60)] → W p l e ({ frames := 0, cells := 0, slots := 0, locals := 0 }) s m [.ref (ma 0), .int 0, .int 120, .int 60].toArray below meth c H locs 0 0 Q (F0 m 3 ls [])  := by
    intro n
    induction n with
    | zero =>
      intro i fz hin hz H locs ls hP hD hS hl
      have e9 : i = 60 := by omega
      subst e9
      refine lv_iload hx hb dX13_copies_3 (lv_at hl 0 rfl) ?_
      refine lv_iload_n hx hb dX13_copies_5 rfl (lv_at hl 4 rfl) ?_
      refine lv_icmp_ge (tgt := 33) hx hb dX13_copies_6 (by decide) (fun cx1 => ?_) (fun h9 => absurd (by decide) h9)
      exact hret _ _ _ _ _ _ fz (by decide) (by decide) dX13_copies_33 hz (hP.sub [0, 1] rfl) (hD.sub [0, 1] (by decide) rfl) hS
    | succ n ih =>
      intro i fz hin hz H locs ls hP hD hS hl
      refine lv_iload hx hb dX13_copies_3 (lv_at hl 0 rfl) ?_
      refine lv_iload_n hx hb dX13_copies_5 rfl (lv_at hl 4 rfl) ?_
      refine lv_icmp_ge (tgt := 33) hx hb dX13_copies_6 (by decide) (fun h9 => absurd h9 (nI_ge (a := i) (b := 60) (by omega) (by decide))) (fun cx2 => ?_)
      refine lv_aload_n hx hb dX13_copies_9 rfl (lv_at hl 1 rfl) ?_
      refine va_get (ci := 10) (v := .ref (ma 22)) (C := RX13) (T := TX13) (N := 42) hx hb hts inX13 hown hK hP 0 rfl rfl 22 (by decide) lf126 (fun _ h9 => h9) rfl dX13_copies_10 ?_
      refine lv_iload_n hx hb dX13_copies_13 rfl (lv_at hl 3 rfl) ?_
      refine lv_iload hx hb dX13_copies_14 (lv_at hl 0 rfl) ?_
      refine lv_iadd hx hb dX13_copies_16 ?_
      refine p_topI (v := (nI (120 + i))) (nI_add 120 i) ?_
      refine lv_aload_n hx hb dX13_copies_17 rfl (lv_at hl 1 rfl) ?_
      refine va_get (ci := 10) (v := .ref (ma 22)) (C := RX13) (T := TX13) (N := 42) hx hb hts inX13 hown hK hP 0 rfl rfl 22 (by decide) lf126 (fun _ h9 => h9) rfl dX13_copies_18 ?_
      refine lv_iload_n hx hb dX13_copies_21 rfl (lv_at hl 2 rfl) ?_
      refine lv_iload hx hb dX13_copies_22 (lv_at hl 0 rfl) ?_
      refine lv_iadd hx hb dX13_copies_24 ?_
      refine p_topI (v := (nI (0 + i))) (nI_add 0 i) ?_
      refine va_iald hx hb hK hP 1 1 rfl rfl (vp_in_nI (by omega) (by decide)) dX13_copies_25 ?_
      refine p_topI (v := (fz (0 + i))) (congrArg fz (nI_clamp (by omega))) ?_
      refine va_iast hx hb hK hP hD hS 1 1 rfl rfl (vp_in_nI (by omega) (by decide)) dX13_copies_26 (fun H locs hP hD hS => ?_)
      have hE : ∃ fx3 : Nat → Int32, va_P D vwCl [((ma 0), .inr (10, [.int i0, .ref (ma 1), .int i2, .int i3, .ref (ma 4), .ref (ma 5), .ref (ma 6), .int i7, .int i8, .ref (ma 9), .ref (ma 10), .ref (ma 11), .ref (ma 12), .int i13, .ref (ma 14), .ref (ma 15), .int i16, .int i17, .ref (ma 18), .ref (ma 19), .ref (ma 20), .ref (ma 21), .ref (ma 22), .int i23, .ref (ma 24), .int i25, .ref (ma 26), .int i27, .int i28, .int i29, .int i30, .ref (ma 31), .ref (ma 32), .ref (ma 33), .ref (ma 34), .ref (ma 35), .int i36, .int i37, .ref (ma 38), .ref (ma 39), .ref (ma 40), .long i41])), ((ma 22), .inl (k 1, 1320, .inl fx3))] H ∧ va_D A [((ma 0), .inr (10, [.int i0, .ref (ma 1), .int i2, .int i3, .ref (ma 4), .ref (ma 5), .ref (ma 6), .int i7, .int i8, .ref (ma 9), .ref (ma 10), .ref (ma 11), .ref (ma 12), .int i13, .ref (ma 14), .ref (ma 15), .int i16, .int i17, .ref (ma 18), .ref (ma 19), .ref (ma 20), .ref (ma 21), .ref (ma 22), .int i23, .ref (ma 24), .int i25, .ref (ma 26), .int i27, .int i28, .int i29, .int i30, .ref (ma 31), .ref (ma 32), .ref (ma 33), .ref (ma 34), .ref (ma 35), .int i36, .int i37, .ref (ma 38), .ref (ma 39), .ref (ma 40), .long i41])), ((ma 22), .inl (k 1, 1320, .inl fx3))] ∧ (fx3 0 = x0) := ⟨_, hP, hD, ((p_upd0 (a := 120 + i) (by omega) (by omega)).trans hz)⟩
      obtain ⟨fx3, hP, hD, hx4⟩ := hE
      refine lv_iinc (v := (nI (i + 1))) (lv' := [(4, .int (nI (i + 1))), (0, .ref (ma 0)), (1, .int 0), (2, .int 120), (3, .int 60)]) hx hb dX13_copies_27 hl (k := 0) rfl (nI_1 i) (by decide) rfl (fun ls hl => ?_)
      refine lv_goto (tgt := 3) hx hb dX13_copies_30 (by decide) ?_
      exact ih (i + 1) fx3 (by omega) hx4 _ _ _ (hP.sub [0, 1] rfl) (hD.sub [0, 1] (by decide) rfl) hS (lv_sub hl [0, 1, 2, 3, 4] rfl)
  exact key3 60 0 fs (by decide) hs0 _ _ _ (hP.sub [0, 1] rfl) (hD.sub [0, 1] (by decide) rfl) hS (lv_sub hl [0, 1, 2, 3, 4] rfl)
def pw_m_copies_180 : List Cond := .code yX13_copies cX13_copies 5 none :: ([.fieldLink RX13 126 "RiverVowsModel" "state" "[I"] ++ wsX130)
set_option maxHeartbeats 4000000 in
set_option maxRecDepth 100000 in
theorem c_m_copies_180 (l : Launch) (D : va_G) (k : Nat → ClassId) (sz : Nat) (ma : Nat → Nat) (i0 : Int32) (i2 : Int32) (i3 : Int32) (i7 : Int32) (i8 : Int32) (i13 : Int32) (i16 : Int32) (i17 : Int32) (i23 : Int32) (i25 : Int32) (i27 : Int32) (i28 : Int32) (i29 : Int32) (i30 : Int32) (i36 : Int32) (i37 : Int32) (i41 : Int64) (fs : Nat → Int32) (x0 : Int32) (hs0 : fs 0 = x0) : pMv l yX13_copies pw_m_copies_180 ({ frames := 0, cells := 0, slots := 0, locals := 0 }) D k [.ref (ma 0), .int 0, .int 180, .int 60] [((ma 0), .inr (10, [.int i0, .ref (ma 1), .int i2, .int i3, .ref (ma 4), .ref (ma 5), .ref (ma 6), .int i7, .int i8, .ref (ma 9), .ref (ma 10), .ref (ma 11), .ref (ma 12), .int i13, .ref (ma 14), .ref (ma 15), .int i16, .int i17, .ref (ma 18), .ref (ma 19), .ref (ma 20), .ref (ma 21), .ref (ma 22), .int i23, .ref (ma 24), .int i25, .ref (ma 26), .int i27, .int i28, .int i29, .int i30, .ref (ma 31), .ref (ma 32), .ref (ma 33), .ref (ma 34), .ref (ma 35), .int i36, .int i37, .ref (ma 38), .ref (ma 39), .ref (ma 40), .long i41])), ((ma 22), .inl (k 1, 1320, .inl fs))] sz (S := (Nat → Int32)) (fun u => u 0 = x0) (fun u => [((ma 0), .inr (10, [.int i0, .ref (ma 1), .int i2, .int i3, .ref (ma 4), .ref (ma 5), .ref (ma 6), .int i7, .int i8, .ref (ma 9), .ref (ma 10), .ref (ma 11), .ref (ma 12), .int i13, .ref (ma 14), .ref (ma 15), .int i16, .int i17, .ref (ma 18), .ref (ma 19), .ref (ma 20), .ref (ma 21), .ref (ma 22), .int i23, .ref (ma 24), .int i25, .ref (ma 26), .int i27, .int i28, .int i29, .int i30, .ref (ma 31), .ref (ma 32), .ref (ma 33), .ref (ma 34), .ref (ma 35), .int i36, .int i37, .ref (ma 38), .ref (ma 39), .ref (ma 40), .long i41])), ((ma 22), .inl (k 1, 1320, .inl u))]) 0 0 := by
  refine p_ofv (cc := cX13_copies) (maxL := 5) (by decide) rfl (Nat.le_of_ble_eq_true rfl) ?_
  intro p e s m below meth c hx hb hml hown hts hin hK hN A hA hP hD hS Q hret ls hl
  have hl : lv_has ls 5 [(0, .ref (ma 0)), (1, .int 0), (2, .int 180), (3, .int 60)] := hl
  have lf126 := hts (.fieldLink RX13 126 "RiverVowsModel" "state" "[I") (by decide +kernel)
  have inX13 : ∀ w ∈ wsX130, w ∈ pw_m_copies_180 := by decide +kernel
  refine lv_iconst (v := 0) hx hb dX13_copies_0 (by decide) ?_
  refine lv_istore (lv' := [(4, .int 0), (0, .ref (ma 0)), (1, .int 0), (2, .int 180), (3, .int 60)]) hx hb dX13_copies_1 hl (by decide) rfl (fun ls hl => ?_)
  have key3 : ∀ (n : Nat) (i : Nat) (fz : Nat → Int32) (hin : i + n = 60) (hz : fz 0 = x0) (H : Heap) (locs : List Loc) (ls : Array Slot), va_P D vwCl [((ma 0), .inr (10, [.int i0, .ref (ma 1), .int i2, .int i3, .ref (ma 4), .ref (ma 5), .ref (ma 6), .int i7, .int i8, .ref (ma 9), .ref (ma 10), .ref (ma 11), .ref (ma 12), .int i13, .ref (ma 14), .ref (ma 15), .int i16, .int i17, .ref (ma 18), .ref (ma 19), .ref (ma 20), .ref (ma 21), .ref (ma 22), .int i23, .ref (ma 24), .int i25, .ref (ma 26), .int i27, .int i28, .int i29, .int i30, .ref (ma 31), .ref (ma 32), .ref (ma 33), .ref (ma 34), .ref (ma 35), .int i36, .int i37, .ref (ma 38), .ref (ma 39), .ref (ma 40), .long i41])), ((ma 22), .inl (k 1, 1320, .inl fz))] H → va_D A [((ma 0), .inr (10, [.int i0, .ref (ma 1), .int i2, .int i3, .ref (ma 4), .ref (ma 5), .ref (ma 6), .int i7, .int i8, .ref (ma 9), .ref (ma 10), .ref (ma 11), .ref (ma 12), .int i13, .ref (ma 14), .ref (ma 15), .int i16, .int i17, .ref (ma 18), .ref (ma 19), .ref (ma 20), .ref (ma 21), .ref (ma 22), .int i23, .ref (ma 24), .int i25, .ref (ma 26), .int i27, .int i28, .int i29, .int i30, .ref (ma 31), .ref (ma 32), .ref (ma 33), .ref (ma 34), .ref (ma 35), .int i36, .int i37, .ref (ma 38), .ref (ma 39), .ref (ma 40), .long i41])), ((ma 22), .inl (k 1, 1320, .inl fz))] → va_S A s.heap H locs → lv_has ls 5 [(4, .int (nI i)), (0, .ref (ma 0)), (1, .int 0), (2, .int 180), (3, .int 60)] → W p l e ({ frames := 0, cells := 0, slots := 0, locals := 0 }) s m [.ref (ma 0), .int 0, .int 180, .int 60].toArray below meth c H locs 0 0 Q (F0 m 3 ls [])  := by
    intro n
    induction n with
    | zero =>
      intro i fz hin hz H locs ls hP hD hS hl
      have e9 : i = 60 := by omega
      subst e9
      refine lv_iload hx hb dX13_copies_3 (lv_at hl 0 rfl) ?_
      refine lv_iload_n hx hb dX13_copies_5 rfl (lv_at hl 4 rfl) ?_
      refine lv_icmp_ge (tgt := 33) hx hb dX13_copies_6 (by decide) (fun cx1 => ?_) (fun h9 => absurd (by decide) h9)
      exact hret _ _ _ _ _ _ fz (by decide) (by decide) dX13_copies_33 hz (hP.sub [0, 1] rfl) (hD.sub [0, 1] (by decide) rfl) hS
    | succ n ih =>
      intro i fz hin hz H locs ls hP hD hS hl
      refine lv_iload hx hb dX13_copies_3 (lv_at hl 0 rfl) ?_
      refine lv_iload_n hx hb dX13_copies_5 rfl (lv_at hl 4 rfl) ?_
      refine lv_icmp_ge (tgt := 33) hx hb dX13_copies_6 (by decide) (fun h9 => absurd h9 (nI_ge (a := i) (b := 60) (by omega) (by decide))) (fun cx2 => ?_)
      refine lv_aload_n hx hb dX13_copies_9 rfl (lv_at hl 1 rfl) ?_
      refine va_get (ci := 10) (v := .ref (ma 22)) (C := RX13) (T := TX13) (N := 42) hx hb hts inX13 hown hK hP 0 rfl rfl 22 (by decide) lf126 (fun _ h9 => h9) rfl dX13_copies_10 ?_
      refine lv_iload_n hx hb dX13_copies_13 rfl (lv_at hl 3 rfl) ?_
      refine lv_iload hx hb dX13_copies_14 (lv_at hl 0 rfl) ?_
      refine lv_iadd hx hb dX13_copies_16 ?_
      refine p_topI (v := (nI (180 + i))) (nI_add 180 i) ?_
      refine lv_aload_n hx hb dX13_copies_17 rfl (lv_at hl 1 rfl) ?_
      refine va_get (ci := 10) (v := .ref (ma 22)) (C := RX13) (T := TX13) (N := 42) hx hb hts inX13 hown hK hP 0 rfl rfl 22 (by decide) lf126 (fun _ h9 => h9) rfl dX13_copies_18 ?_
      refine lv_iload_n hx hb dX13_copies_21 rfl (lv_at hl 2 rfl) ?_
      refine lv_iload hx hb dX13_copies_22 (lv_at hl 0 rfl) ?_
      refine lv_iadd hx hb dX13_copies_24 ?_
      refine p_topI (v := (nI (0 + i))) (nI_add 0 i) ?_
      refine va_iald hx hb hK hP 1 1 rfl rfl (vp_in_nI (by omega) (by decide)) dX13_copies_25 ?_
      refine p_topI (v := (fz (0 + i))) (congrArg fz (nI_clamp (by omega))) ?_
      refine va_iast hx hb hK hP hD hS 1 1 rfl rfl (vp_in_nI (by omega) (by decide)) dX13_copies_26 (fun H locs hP hD hS => ?_)
      have hE : ∃ fx3 : Nat → Int32, va_P D vwCl [((ma 0), .inr (10, [.int i0, .ref (ma 1), .int i2, .int i3, .ref (ma 4), .ref (ma 5), .ref (ma 6), .int i7, .int i8, .ref (ma 9), .ref (ma 10), .ref (ma 11), .ref (ma 12), .int i13, .ref (ma 14), .ref (ma 15), .int i16, .int i17, .ref (ma 18), .ref (ma 19), .ref (ma 20), .ref (ma 21), .ref (ma 22), .int i23, .ref (ma 24), .int i25, .ref (ma 26), .int i27, .int i28, .int i29, .int i30, .ref (ma 31), .ref (ma 32), .ref (ma 33), .ref (ma 34), .ref (ma 35), .int i36, .int i37, .ref (ma 38), .ref (ma 39), .ref (ma 40), .long i41])), ((ma 22), .inl (k 1, 1320, .inl fx3))] H ∧ va_D A [((ma 0), .inr (10, [.int i0, .ref (ma 1), .int i2, .int i3, .ref (ma 4), .ref (ma 5), .ref (ma 6), .int i7, .int i8, .ref (ma 9), .ref (ma 10), .ref (ma 11), .ref (ma 12), .int i13, .ref (ma 14), .ref (ma 15), .int i16, .int i17, .ref (ma 18), .ref (ma 19), .ref (ma 20), .ref (ma 21), .ref (ma 22), .int i23, .ref (ma 24), .int i25, .ref (ma 26), .int i27, .int i28, .int i29, .int i30, .ref (ma 31), .ref (ma 32), .ref (ma 33), .ref (ma 34), .ref (ma 35), .int i36, .int i37, .ref (ma 38), .ref (ma 39), .ref (ma 40), .long i41])), ((ma 22), .inl (k 1, 1320, .inl fx3))] ∧ (fx3 0 = x0) := ⟨_, hP, hD, ((p_upd0 (a := 180 + i) (by omega) (by omega)).trans hz)⟩
      obtain ⟨fx3, hP, hD, hx4⟩ := hE
      refine lv_iinc (v := (nI (i + 1))) (lv' := [(4, .int (nI (i + 1))), (0, .ref (ma 0)), (1, .int 0), (2, .int 180), (3, .int 60)]) hx hb dX13_copies_27 hl (k := 0) rfl (nI_1 i) (by decide) rfl (fun ls hl => ?_)
      refine lv_goto (tgt := 3) hx hb dX13_copies_30 (by decide) ?_
      exact ih (i + 1) fx3 (by omega) hx4 _ _ _ (hP.sub [0, 1] rfl) (hD.sub [0, 1] (by decide) rfl) hS (lv_sub hl [0, 1, 2, 3, 4] rfl)
  exact key3 60 0 fs (by decide) hs0 _ _ _ (hP.sub [0, 1] rfl) (hD.sub [0, 1] (by decide) rfl) hS (lv_sub hl [0, 1, 2, 3, 4] rfl)
def pw_m_copies_240 : List Cond := .code yX13_copies cX13_copies 5 none :: ([.fieldLink RX13 126 "RiverVowsModel" "state" "[I"] ++ wsX130)
set_option maxHeartbeats 4000000 in
set_option maxRecDepth 100000 in
theorem c_m_copies_240 (l : Launch) (D : va_G) (k : Nat → ClassId) (sz : Nat) (ma : Nat → Nat) (i0 : Int32) (i2 : Int32) (i3 : Int32) (i7 : Int32) (i8 : Int32) (i13 : Int32) (i16 : Int32) (i17 : Int32) (i23 : Int32) (i25 : Int32) (i27 : Int32) (i28 : Int32) (i29 : Int32) (i30 : Int32) (i36 : Int32) (i37 : Int32) (i41 : Int64) (fs : Nat → Int32) (x0 : Int32) (hs0 : fs 0 = x0) : pMv l yX13_copies pw_m_copies_240 ({ frames := 0, cells := 0, slots := 0, locals := 0 }) D k [.ref (ma 0), .int 0, .int 240, .int 60] [((ma 0), .inr (10, [.int i0, .ref (ma 1), .int i2, .int i3, .ref (ma 4), .ref (ma 5), .ref (ma 6), .int i7, .int i8, .ref (ma 9), .ref (ma 10), .ref (ma 11), .ref (ma 12), .int i13, .ref (ma 14), .ref (ma 15), .int i16, .int i17, .ref (ma 18), .ref (ma 19), .ref (ma 20), .ref (ma 21), .ref (ma 22), .int i23, .ref (ma 24), .int i25, .ref (ma 26), .int i27, .int i28, .int i29, .int i30, .ref (ma 31), .ref (ma 32), .ref (ma 33), .ref (ma 34), .ref (ma 35), .int i36, .int i37, .ref (ma 38), .ref (ma 39), .ref (ma 40), .long i41])), ((ma 22), .inl (k 1, 1320, .inl fs))] sz (S := (Nat → Int32)) (fun u => u 0 = x0) (fun u => [((ma 0), .inr (10, [.int i0, .ref (ma 1), .int i2, .int i3, .ref (ma 4), .ref (ma 5), .ref (ma 6), .int i7, .int i8, .ref (ma 9), .ref (ma 10), .ref (ma 11), .ref (ma 12), .int i13, .ref (ma 14), .ref (ma 15), .int i16, .int i17, .ref (ma 18), .ref (ma 19), .ref (ma 20), .ref (ma 21), .ref (ma 22), .int i23, .ref (ma 24), .int i25, .ref (ma 26), .int i27, .int i28, .int i29, .int i30, .ref (ma 31), .ref (ma 32), .ref (ma 33), .ref (ma 34), .ref (ma 35), .int i36, .int i37, .ref (ma 38), .ref (ma 39), .ref (ma 40), .long i41])), ((ma 22), .inl (k 1, 1320, .inl u))]) 0 0 := by
  refine p_ofv (cc := cX13_copies) (maxL := 5) (by decide) rfl (Nat.le_of_ble_eq_true rfl) ?_
  intro p e s m below meth c hx hb hml hown hts hin hK hN A hA hP hD hS Q hret ls hl
  have hl : lv_has ls 5 [(0, .ref (ma 0)), (1, .int 0), (2, .int 240), (3, .int 60)] := hl
  have lf126 := hts (.fieldLink RX13 126 "RiverVowsModel" "state" "[I") (by decide +kernel)
  have inX13 : ∀ w ∈ wsX130, w ∈ pw_m_copies_240 := by decide +kernel
  refine lv_iconst (v := 0) hx hb dX13_copies_0 (by decide) ?_
  refine lv_istore (lv' := [(4, .int 0), (0, .ref (ma 0)), (1, .int 0), (2, .int 240), (3, .int 60)]) hx hb dX13_copies_1 hl (by decide) rfl (fun ls hl => ?_)
  have key3 : ∀ (n : Nat) (i : Nat) (fz : Nat → Int32) (hin : i + n = 60) (hz : fz 0 = x0) (H : Heap) (locs : List Loc) (ls : Array Slot), va_P D vwCl [((ma 0), .inr (10, [.int i0, .ref (ma 1), .int i2, .int i3, .ref (ma 4), .ref (ma 5), .ref (ma 6), .int i7, .int i8, .ref (ma 9), .ref (ma 10), .ref (ma 11), .ref (ma 12), .int i13, .ref (ma 14), .ref (ma 15), .int i16, .int i17, .ref (ma 18), .ref (ma 19), .ref (ma 20), .ref (ma 21), .ref (ma 22), .int i23, .ref (ma 24), .int i25, .ref (ma 26), .int i27, .int i28, .int i29, .int i30, .ref (ma 31), .ref (ma 32), .ref (ma 33), .ref (ma 34), .ref (ma 35), .int i36, .int i37, .ref (ma 38), .ref (ma 39), .ref (ma 40), .long i41])), ((ma 22), .inl (k 1, 1320, .inl fz))] H → va_D A [((ma 0), .inr (10, [.int i0, .ref (ma 1), .int i2, .int i3, .ref (ma 4), .ref (ma 5), .ref (ma 6), .int i7, .int i8, .ref (ma 9), .ref (ma 10), .ref (ma 11), .ref (ma 12), .int i13, .ref (ma 14), .ref (ma 15), .int i16, .int i17, .ref (ma 18), .ref (ma 19), .ref (ma 20), .ref (ma 21), .ref (ma 22), .int i23, .ref (ma 24), .int i25, .ref (ma 26), .int i27, .int i28, .int i29, .int i30, .ref (ma 31), .ref (ma 32), .ref (ma 33), .ref (ma 34), .ref (ma 35), .int i36, .int i37, .ref (ma 38), .ref (ma 39), .ref (ma 40), .long i41])), ((ma 22), .inl (k 1, 1320, .inl fz))] → va_S A s.heap H locs → lv_has ls 5 [(4, .int (nI i)), (0, .ref (ma 0)), (1, .int 0), (2, .int 240), (3, .int 60)] → W p l e ({ frames := 0, cells := 0, slots := 0, locals := 0 }) s m [.ref (ma 0), .int 0, .int 240, .int 60].toArray below meth c H locs 0 0 Q (F0 m 3 ls [])  := by
    intro n
    induction n with
    | zero =>
      intro i fz hin hz H locs ls hP hD hS hl
      have e9 : i = 60 := by omega
      subst e9
      refine lv_iload hx hb dX13_copies_3 (lv_at hl 0 rfl) ?_
      refine lv_iload_n hx hb dX13_copies_5 rfl (lv_at hl 4 rfl) ?_
      refine lv_icmp_ge (tgt := 33) hx hb dX13_copies_6 (by decide) (fun cx1 => ?_) (fun h9 => absurd (by decide) h9)
      exact hret _ _ _ _ _ _ fz (by decide) (by decide) dX13_copies_33 hz (hP.sub [0, 1] rfl) (hD.sub [0, 1] (by decide) rfl) hS
    | succ n ih =>
      intro i fz hin hz H locs ls hP hD hS hl
      refine lv_iload hx hb dX13_copies_3 (lv_at hl 0 rfl) ?_
      refine lv_iload_n hx hb dX13_copies_5 rfl (lv_at hl 4 rfl) ?_
      refine lv_icmp_ge (tgt := 33) hx hb dX13_copies_6 (by decide) (fun h9 => absurd h9 (nI_ge (a := i) (b := 60) (by omega) (by decide))) (fun cx2 => ?_)
      refine lv_aload_n hx hb dX13_copies_9 rfl (lv_at hl 1 rfl) ?_
      refine va_get (ci := 10) (v := .ref (ma 22)) (C := RX13) (T := TX13) (N := 42) hx hb hts inX13 hown hK hP 0 rfl rfl 22 (by decide) lf126 (fun _ h9 => h9) rfl dX13_copies_10 ?_
      refine lv_iload_n hx hb dX13_copies_13 rfl (lv_at hl 3 rfl) ?_
      refine lv_iload hx hb dX13_copies_14 (lv_at hl 0 rfl) ?_
      refine lv_iadd hx hb dX13_copies_16 ?_
      refine p_topI (v := (nI (240 + i))) (nI_add 240 i) ?_
      refine lv_aload_n hx hb dX13_copies_17 rfl (lv_at hl 1 rfl) ?_
      refine va_get (ci := 10) (v := .ref (ma 22)) (C := RX13) (T := TX13) (N := 42) hx hb hts inX13 hown hK hP 0 rfl rfl 22 (by decide) lf126 (fun _ h9 => h9) rfl dX13_copies_18 ?_
      refine lv_iload_n hx hb dX13_copies_21 rfl (lv_at hl 2 rfl) ?_
      refine lv_iload hx hb dX13_copies_22 (lv_at hl 0 rfl) ?_
      refine lv_iadd hx hb dX13_copies_24 ?_
      refine p_topI (v := (nI (0 + i))) (nI_add 0 i) ?_
      refine va_iald hx hb hK hP 1 1 rfl rfl (vp_in_nI (by omega) (by decide)) dX13_copies_25 ?_
      refine p_topI (v := (fz (0 + i))) (congrArg fz (nI_clamp (by omega))) ?_
      refine va_iast hx hb hK hP hD hS 1 1 rfl rfl (vp_in_nI (by omega) (by decide)) dX13_copies_26 (fun H locs hP hD hS => ?_)
      have hE : ∃ fx3 : Nat → Int32, va_P D vwCl [((ma 0), .inr (10, [.int i0, .ref (ma 1), .int i2, .int i3, .ref (ma 4), .ref (ma 5), .ref (ma 6), .int i7, .int i8, .ref (ma 9), .ref (ma 10), .ref (ma 11), .ref (ma 12), .int i13, .ref (ma 14), .ref (ma 15), .int i16, .int i17, .ref (ma 18), .ref (ma 19), .ref (ma 20), .ref (ma 21), .ref (ma 22), .int i23, .ref (ma 24), .int i25, .ref (ma 26), .int i27, .int i28, .int i29, .int i30, .ref (ma 31), .ref (ma 32), .ref (ma 33), .ref (ma 34), .ref (ma 35), .int i36, .int i37, .ref (ma 38), .ref (ma 39), .ref (ma 40), .long i41])), ((ma 22), .inl (k 1, 1320, .inl fx3))] H ∧ va_D A [((ma 0), .inr (10, [.int i0, .ref (ma 1), .int i2, .int i3, .ref (ma 4), .ref (ma 5), .ref (ma 6), .int i7, .int i8, .ref (ma 9), .ref (ma 10), .ref (ma 11), .ref (ma 12), .int i13, .ref (ma 14), .ref (ma 15), .int i16, .int i17, .ref (ma 18), .ref (ma 19), .ref (ma 20), .ref (ma 21), .ref (ma 22), .int i23, .ref (ma 24), .int i25, .ref (ma 26), .int i27, .int i28, .int i29, .int i30, .ref (ma 31), .ref (ma 32), .ref (ma 33), .ref (ma 34), .ref (ma 35), .int i36, .int i37, .ref (ma 38), .ref (ma 39), .ref (ma 40), .long i41])), ((ma 22), .inl (k 1, 1320, .inl fx3))] ∧ (fx3 0 = x0) := ⟨_, hP, hD, ((p_upd0 (a := 240 + i) (by omega) (by omega)).trans hz)⟩
      obtain ⟨fx3, hP, hD, hx4⟩ := hE
      refine lv_iinc (v := (nI (i + 1))) (lv' := [(4, .int (nI (i + 1))), (0, .ref (ma 0)), (1, .int 0), (2, .int 240), (3, .int 60)]) hx hb dX13_copies_27 hl (k := 0) rfl (nI_1 i) (by decide) rfl (fun ls hl => ?_)
      refine lv_goto (tgt := 3) hx hb dX13_copies_30 (by decide) ?_
      exact ih (i + 1) fx3 (by omega) hx4 _ _ _ (hP.sub [0, 1] rfl) (hD.sub [0, 1] (by decide) rfl) hS (lv_sub hl [0, 1, 2, 3, 4] rfl)
  exact key3 60 0 fs (by decide) hs0 _ _ _ (hP.sub [0, 1] rfl) (hD.sub [0, 1] (by decide) rfl) hS (lv_sub hl [0, 1, 2, 3, 4] rfl)
