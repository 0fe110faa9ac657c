def pw_isRiver : List Cond := .code yX12_isRiver cX12_isRiver 2 (some .boolean) :: ([.fieldLink RX12 19 "RiverVows" "country" "LRiverVows$Land;", .fieldLink RX12 151 "RiverVows$Land" "rivers" "I"] ++ wsX120 ++ wsX30)
set_option maxHeartbeats 4000000 in
set_option maxRecDepth 100000 in
theorem c_isRiver (l : Launch) (D : va_G) (k : Nat → ClassId) (sz : Nat) (qa : Nat → Nat) (r : Int32)  : pMi l yX12_isRiver pw_isRiver ({ frames := 0, cells := 0, slots := 0, locals := 0 }) D k [.ref (qa 0), .int r] [((qa 0), .inr (9, [.ref (qa 1), .ref (qa 6), .ref (qa 9), .ref (qa 17), .ref (qa 18), .ref (qa 19), .ref (qa 20), .ref (qa 23), .ref (qa 25), .ref (qa 28), .ref (qa 29), .ref (qa 30), .ref (qa 31), .int 0, .int 0, .int 0])), ((qa 30), .inr (2, [.ref (qa 133), .ref (qa 134), .ref (qa 135), .ref (qa 136), .ref (qa 137), .ref (qa 138), .ref (qa 139), .int 0, .int 0, .int 0, .int 0, .int 0]))] sz (S := Unit) (fun r u => r = 0) (fun u => [((qa 0), .inr (9, [.ref (qa 1), .ref (qa 6), .ref (qa 9), .ref (qa 17), .ref (qa 18), .ref (qa 19), .ref (qa 20), .ref (qa 23), .ref (qa 25), .ref (qa 28), .ref (qa 29), .ref (qa 30), .ref (qa 31), .int 0, .int 0, .int 0])), ((qa 30), .inr (2, [.ref (qa 133), .ref (qa 134), .ref (qa 135), .ref (qa 136), .ref (qa 137), .ref (qa 138), .ref (qa 139), .int 0, .int 0, .int 0, .int 0, .int 0]))]) 0 0 := by
  refine p_ofi (cc := cX12_isRiver) (maxL := 2) (rt := .boolean) (by decide) rfl (Nat.le_of_ble_eq_true rfl) ?_
  intro p e s m below meth c hx hb hml hown hts hK hN A hA hP hD hS Q hret ls hl
  have hl : lv_has ls 2 [(0, .ref (qa 0)), (1, .int r)] := hl
  have lf19 := hts (.fieldLink RX12 19 "RiverVows" "country" "LRiverVows$Land;") (by decide +kernel)
  have inX12 : ∀ w ∈ wsX120, w ∈ pw_isRiver := by decide +kernel
  have lf151 := hts (.fieldLink RX12 151 "RiverVows$Land" "rivers" "I") (by decide +kernel)
  have inX3 : ∀ w ∈ wsX30, w ∈ pw_isRiver := by decide +kernel
  refine lv_iload_n hx hb dX12_isRiver_0 rfl (lv_at hl 1 rfl) ?_
  refine lv_if_lt (tgt := 19) hx hb dX12_isRiver_1 (by decide) (fun cx1 => ?_) (fun cx1 => ?_)
  · skip
    refine lv_iconst (v := 0) hx hb dX12_isRiver_19 (by decide) ?_
    exact hret _ _ _ _ _ _ 0 () (by decide) (by decide) dX12_isRiver_20 rfl rfl (hP.sub [0, 1] rfl) (hD.sub [0, 1] (by decide) rfl) hS
  · skip
    refine lv_iload_n hx hb dX12_isRiver_4 rfl (lv_at hl 1 rfl) ?_
    refine lv_aload_n hx hb dX12_isRiver_5 rfl (lv_at hl 0 rfl) ?_
    refine va_get (ci := 9) (v := .ref (qa 30)) (C := RX12) (T := TX12) (N := 16) hx hb hts inX12 hown hK hP 0 rfl rfl 11 (by decide) lf19 (fun _ h9 => h9) rfl dX12_isRiver_6 ?_
    refine va_get (ci := 2) (v := .int 0) (C := RX3) (T := TX3) (N := 12) hx hb hts inX3 hown hK hP 1 rfl rfl 7 (by decide) lf151 (fun _ h9 => h9) rfl dX12_isRiver_9 ?_
    refine lv_icmp_ge (tgt := 19) hx hb dX12_isRiver_12 (by decide) (fun cx2 => ?_) (fun h9 => absurd (show 0 ≤ r by revert cx1; simp only [Int32.lt_iff_toInt_lt, Int32.le_iff_toInt_le, ← Int32.toInt_inj, (by decide : (0 : Int32).toInt = 0)]; omega) h9)
    refine lv_iconst (v := 0) hx hb dX12_isRiver_19 (by decide) ?_
    exact hret _ _ _ _ _ _ 0 () (by decide) (by decide) dX12_isRiver_20 rfl rfl (hP.sub [0, 1] rfl) (hD.sub [0, 1] (by decide) rfl) hS
def pw_areTwo : List Cond := .code yX12_areTwo cX12_areTwo 3 (some .boolean) :: ([.code yX12_isRiver cX12_isRiver 2 (some .boolean), .fieldLink RX12 19 "RiverVows" "country" "LRiverVows$Land;", .fieldLink RX12 151 "RiverVows$Land" "rivers" "I", .methodLink RX12 154 yX12_isRiver, .instanceMethod yX12_isRiver, .selects RX12 yX12_isRiver yX12_isRiver, .initialized RX12] ++ wsX120 ++ wsX30)
set_option maxRecDepth 20000 in
theorem pg_areTwo_0 : GoodIn pw_areTwo (wsV RX12 154 RX12 yX12_isRiver pw_isRiver) := goodIn_sub (by decide +kernel) (by decide +kernel)
set_option maxHeartbeats 4000000 in
set_option maxRecDepth 100000 in
theorem c_areTwo (l : Launch) (D : va_G) (k : Nat → ClassId) (sz : Nat) (qa : Nat → Nat) (r : Int32) (r2 : Int32)  : pMi l yX12_areTwo pw_areTwo ({ frames := 1, cells := 0, slots := 0, locals := 21 }) D k [.ref (qa 0), .int r, .int r2] [((qa 0), .inr (9, [.ref (qa 1), .ref (qa 6), .ref (qa 9), .ref (qa 17), .ref (qa 18), .ref (qa 19), .ref (qa 20), .ref (qa 23), .ref (qa 25), .ref (qa 28), .ref (qa 29), .ref (qa 30), .ref (qa 31), .int 0, .int 0, .int 0])), ((qa 30), .inr (2, [.ref (qa 133), .ref (qa 134), .ref (qa 135), .ref (qa 136), .ref (qa 137), .ref (qa 138), .ref (qa 139), .int 0, .int 0, .int 0, .int 0, .int 0]))] sz (S := Unit) (fun r u => r = 0) (fun u => [((qa 0), .inr (9, [.ref (qa 1), .ref (qa 6), .ref (qa 9), .ref (qa 17), .ref (qa 18), .ref (qa 19), .ref (qa 20), .ref (qa 23), .ref (qa 25), .ref (qa 28), .ref (qa 29), .ref (qa 30), .ref (qa 31), .int 0, .int 0, .int 0])), ((qa 30), .inr (2, [.ref (qa 133), .ref (qa 134), .ref (qa 135), .ref (qa 136), .ref (qa 137), .ref (qa 138), .ref (qa 139), .int 0, .int 0, .int 0, .int 0, .int 0]))]) 0 0 := by
  refine p_ofi (cc := cX12_areTwo) (maxL := 3) (rt := .boolean) (by decide) rfl (Nat.le_of_ble_eq_true rfl) ?_
  intro p e s m below meth c hx hb hml hown hts hK hN A hA hP hD hS Q hret ls hl
  have hl : lv_has ls 3 [(0, .ref (qa 0)), (1, .int r), (2, .int r2)] := hl
  refine lv_aload_n hx hb dX12_areTwo_0 rfl (lv_at hl 0 rfl) ?_
  refine lv_iload_n hx hb dX12_areTwo_1 rfl (lv_at hl 1 rfl) ?_
  refine p_ji (wr := []) (va_runV (As := [.int r]) (rest := []) ⟨hx, hb, hml, hown, hts⟩ (c_isRiver l D k _ qa r) (cwV 1 hts pg_areTwo_0 rfl rfl rfl (by decide +kernel) ⟨Nat.le_of_ble_eq_true rfl, Nat.le_of_ble_eq_true rfl⟩) (pV hK hN hP hD [0, 1] rfl (by decide) rfl 0 rfl rfl) rfl rfl hl.1 rfl (lv_room (Nat.le_of_ble_eq_true rfl)) dX12_areTwo_2 ⟨by decide, by decide⟩) hP hD hS hA [0, 1] [] rfl rfl (by decide) (by decide) (fun rx3 ux1 H locs wx2 hP hD hS => ?_)
  have hx4 : rx3 = 0 := wx2
  subst hx4
  have hP : va_P D vwCl [((qa 0), .inr (9, [.ref (qa 1), .ref (qa 6), .ref (qa 9), .ref (qa 17), .ref (qa 18), .ref (qa 19), .ref (qa 20), .ref (qa 23), .ref (qa 25), .ref (qa 28), .ref (qa 29), .ref (qa 30), .ref (qa 31), .int 0, .int 0, .int 0])), ((qa 30), .inr (2, [.ref (qa 133), .ref (qa 134), .ref (qa 135), .ref (qa 136), .ref (qa 137), .ref (qa 138), .ref (qa 139), .int 0, .int 0, .int 0, .int 0, .int 0]))] H := hP
  have hD : va_D A [((qa 0), .inr (9, [.ref (qa 1), .ref (qa 6), .ref (qa 9), .ref (qa 17), .ref (qa 18), .ref (qa 19), .ref (qa 20), .ref (qa 23), .ref (qa 25), .ref (qa 28), .ref (qa 29), .ref (qa 30), .ref (qa 31), .int 0, .int 0, .int 0])), ((qa 30), .inr (2, [.ref (qa 133), .ref (qa 134), .ref (qa 135), .ref (qa 136), .ref (qa 137), .ref (qa 138), .ref (qa 139), .int 0, .int 0, .int 0, .int 0, .int 0]))] := hD
  refine lv_if_eq (tgt := 25) hx hb dX12_areTwo_5 (by decide) (fun cx5 => ?_) (fun h9 => absurd (by decide) h9)
  refine lv_iconst (v := 0) hx hb dX12_areTwo_25 (by decide) ?_
  exact hret _ _ _ _ _ _ 0 () (by decide) (by decide) dX12_areTwo_26 rfl rfl (hP.sub [0, 1] rfl) (hD.sub [0, 1] (by decide) rfl) hS
def pw_hasTown : List Cond := .code yX12_hasTown cX12_hasTown 2 (some .boolean) :: ([.code yX12_isRiver cX12_isRiver 2 (some .boolean), .fieldLink RX12 19 "RiverVows" "country" "LRiverVows$Land;", .fieldLink RX12 151 "RiverVows$Land" "rivers" "I", .methodLink RX12 154 yX12_isRiver, .instanceMethod yX12_isRiver, .selects RX12 yX12_isRiver yX12_isRiver, .initialized RX12] ++ wsX120 ++ wsX30)
set_option maxRecDepth 20000 in
theorem pg_hasTown_0 : GoodIn pw_hasTown (wsV RX12 154 RX12 yX12_isRiver pw_isRiver) := goodIn_sub (by decide +kernel) (by decide +kernel)
set_option maxHeartbeats 4000000 in
set_option maxRecDepth 100000 in
theorem c_hasTown (l : Launch) (D : va_G) (k : Nat → ClassId) (sz : Nat) (qa : Nat → Nat) (r : Int32)  : pMi l yX12_hasTown pw_hasTown ({ frames := 1, cells := 0, slots := 0, locals := 21 }) D k [.ref (qa 0), .int r] [((qa 0), .inr (9, [.ref (qa 1), .ref (qa 6), .ref (qa 9), .ref (qa 17), .ref (qa 18), .ref (qa 19), .ref (qa 20), .ref (qa 23), .ref (qa 25), .ref (qa 28), .ref (qa 29), .ref (qa 30), .ref (qa 31), .int 0, .int 0, .int 0])), ((qa 30), .inr (2, [.ref (qa 133), .ref (qa 134), .ref (qa 135), .ref (qa 136), .ref (qa 137), .ref (qa 138), .ref (qa 139), .int 0, .int 0, .int 0, .int 0, .int 0]))] sz (S := Unit) (fun r u => r = 0) (fun u => [((qa 0), .inr (9, [.ref (qa 1), .ref (qa 6), .ref (qa 9), .ref (qa 17), .ref (qa 18), .ref (qa 19), .ref (qa 20), .ref (qa 23), .ref (qa 25), .ref (qa 28), .ref (qa 29), .ref (qa 30), .ref (qa 31), .int 0, .int 0, .int 0])), ((qa 30), .inr (2, [.ref (qa 133), .ref (qa 134), .ref (qa 135), .ref (qa 136), .ref (qa 137), .ref (qa 138), .ref (qa 139), .int 0, .int 0, .int 0, .int 0, .int 0]))]) 0 0 := by
  refine p_ofi (cc := cX12_hasTown) (maxL := 2) (rt := .boolean) (by decide) rfl (Nat.le_of_ble_eq_true rfl) ?_
  intro p e s m below meth c hx hb hml hown hts hK hN A hA hP hD hS Q hret ls hl
  have hl : lv_has ls 2 [(0, .ref (qa 0)), (1, .int r)] := hl
  refine lv_aload_n hx hb dX12_hasTown_0 rfl (lv_at hl 0 rfl) ?_
  refine lv_iload_n hx hb dX12_hasTown_1 rfl (lv_at hl 1 rfl) ?_
  refine p_ji (wr := []) (va_runV (As := [.int r]) (rest := []) ⟨hx, hb, hml, hown, hts⟩ (c_isRiver l D k _ qa r) (cwV 1 hts pg_hasTown_0 rfl rfl rfl (by decide +kernel) ⟨Nat.le_of_ble_eq_true rfl, Nat.le_of_ble_eq_true rfl⟩) (pV hK hN hP hD [0, 1] rfl (by decide) rfl 0 rfl rfl) rfl rfl hl.1 rfl (lv_room (Nat.le_of_ble_eq_true rfl)) dX12_hasTown_2 ⟨by decide, by decide⟩) hP hD hS hA [0, 1] [] rfl rfl (by decide) (by decide) (fun rx3 ux1 H locs wx2 hP hD hS => ?_)
  have hx4 : rx3 = 0 := wx2
  subst hx4
  have hP : va_P D vwCl [((qa 0), .inr (9, [.ref (qa 1), .ref (qa 6), .ref (qa 9), .ref (qa 17), .ref (qa 18), .ref (qa 19), .ref (qa 20), .ref (qa 23), .ref (qa 25), .ref (qa 28), .ref (qa 29), .ref (qa 30), .ref (qa 31), .int 0, .int 0, .int 0])), ((qa 30), .inr (2, [.ref (qa 133), .ref (qa 134), .ref (qa 135), .ref (qa 136), .ref (qa 137), .ref (qa 138), .ref (qa 139), .int 0, .int 0, .int 0, .int 0, .int 0]))] H := hP
  have hD : va_D A [((qa 0), .inr (9, [.ref (qa 1), .ref (qa 6), .ref (qa 9), .ref (qa 17), .ref (qa 18), .ref (qa 19), .ref (qa 20), .ref (qa 23), .ref (qa 25), .ref (qa 28), .ref (qa 29), .ref (qa 30), .ref (qa 31), .int 0, .int 0, .int 0])), ((qa 30), .inr (2, [.ref (qa 133), .ref (qa 134), .ref (qa 135), .ref (qa 136), .ref (qa 137), .ref (qa 138), .ref (qa 139), .int 0, .int 0, .int 0, .int 0, .int 0]))] := hD
  refine lv_if_eq (tgt := 28) hx hb dX12_hasTown_5 (by decide) (fun cx5 => ?_) (fun h9 => absurd (by decide) h9)
  refine lv_iconst (v := 0) hx hb dX12_hasTown_28 (by decide) ?_
  exact hret _ _ _ _ _ _ 0 () (by decide) (by decide) dX12_hasTown_29 rfl rfl (hP.sub [0, 1] rfl) (hD.sub [0, 1] (by decide) rfl) hS
def pw_isSeason : List Cond := .code yX12_isSeason cX12_isSeason 1 (some .boolean) :: ([])
set_option maxHeartbeats 4000000 in
set_option maxRecDepth 100000 in
theorem c_isSeason (l : Launch) (D : va_G) (k : Nat → ClassId) (sz : Nat) (r : Int32)  : pMi l yX12_isSeason pw_isSeason ({ frames := 0, cells := 0, slots := 0, locals := 0 }) D k [.int r] [] sz (S := Unit) (fun r u => True) (fun u => []) 0 0 := by
  refine p_ofi (cc := cX12_isSeason) (maxL := 1) (rt := .boolean) (by decide) rfl (Nat.le_of_ble_eq_true rfl) ?_
  intro p e s m below meth c hx hb hml hown hts hK hN A hA hP hD hS Q hret ls hl
  have hl : lv_has ls 1 [(0, .int r)] := hl
  refine lv_iload_n hx hb dX12_isSeason_0 rfl (lv_at hl 0 rfl) ?_
  refine lv_if_lt (tgt := 13) hx hb dX12_isSeason_1 (by decide) (fun cx1 => ?_) (fun cx1 => ?_)
  · skip
    refine lv_iconst (v := 0) hx hb dX12_isSeason_13 (by decide) ?_
    exact hret _ _ _ _ _ _ 0 () (by decide) (by decide) dX12_isSeason_14 rfl trivial (hP.sub [] rfl) (hD.sub [] (by decide) rfl) hS
  · skip
    refine lv_iload_n hx hb dX12_isSeason_4 rfl (lv_at hl 0 rfl) ?_
    refine lv_iconst (v := 4) hx hb dX12_isSeason_5 (by decide) ?_
    refine lv_icmp_ge (tgt := 13) hx hb dX12_isSeason_6 (by decide) (fun cx2 => ?_) (fun cx2 => ?_)
    · skip
      refine lv_iconst (v := 0) hx hb dX12_isSeason_13 (by decide) ?_
      exact hret _ _ _ _ _ _ 0 () (by decide) (by decide) dX12_isSeason_14 rfl trivial (hP.sub [] rfl) (hD.sub [] (by decide) rfl) hS
    · skip
      refine lv_iconst (v := 1) hx hb dX12_isSeason_9 (by decide) ?_
      refine lv_goto (tgt := 14) hx hb dX12_isSeason_10 (by decide) ?_
      exact hret _ _ _ _ _ _ 1 () (by decide) (by decide) dX12_isSeason_14 rfl trivial (hP.sub [] rfl) (hD.sub [] (by decide) rfl) hS
def pw_season : List Cond := .code yX12_season cX12_season 1 (some .int) :: ([.fieldLink RX12 38 "RiverVows" "now" "LRiverVows$Standing;", .fieldLink RX12 167 "RiverVows$Standing" "passed" "I"] ++ wsX120 ++ wsX90)
set_option maxHeartbeats 4000000 in
set_option maxRecDepth 100000 in
theorem c_season (l : Launch) (D : va_G) (k : Nat → ClassId) (sz : Nat) (qa : Nat → Nat)  : pMi l yX12_season pw_season ({ frames := 0, cells := 0, slots := 0, locals := 0 }) D k [.ref (qa 0)] [((qa 0), .inr (9, [.ref (qa 1), .ref (qa 6), .ref (qa 9), .ref (qa 17), .ref (qa 18), .ref (qa 19), .ref (qa 20), .ref (qa 23), .ref (qa 25), .ref (qa 28), .ref (qa 29), .ref (qa 30), .ref (qa 31), .int 0, .int 0, .int 0])), ((qa 9), .inr (8, [.ref (qa 10), .ref (qa 11), .ref (qa 12), .ref (qa 13), .ref (qa 14), .ref (qa 15), .ref (qa 16), .int 0, .int (-1), .int 0, .int 0]))] sz (S := Unit) (fun r u => r = 0) (fun u => [((qa 0), .inr (9, [.ref (qa 1), .ref (qa 6), .ref (qa 9), .ref (qa 17), .ref (qa 18), .ref (qa 19), .ref (qa 20), .ref (qa 23), .ref (qa 25), .ref (qa 28), .ref (qa 29), .ref (qa 30), .ref (qa 31), .int 0, .int 0, .int 0])), ((qa 9), .inr (8, [.ref (qa 10), .ref (qa 11), .ref (qa 12), .ref (qa 13), .ref (qa 14), .ref (qa 15), .ref (qa 16), .int 0, .int (-1), .int 0, .int 0]))]) 0 0 := by
  refine p_ofi (cc := cX12_season) (maxL := 1) (rt := .int) (by decide) rfl (Nat.le_of_ble_eq_true rfl) ?_
  intro p e s m below meth c hx hb hml hown hts hK hN A hA hP hD hS Q hret ls hl
  have hl : lv_has ls 1 [(0, .ref (qa 0))] := hl
  have lf38 := hts (.fieldLink RX12 38 "RiverVows" "now" "LRiverVows$Standing;") (by decide +kernel)
  have inX12 : ∀ w ∈ wsX120, w ∈ pw_season := by decide +kernel
  have lf167 := hts (.fieldLink RX12 167 "RiverVows$Standing" "passed" "I") (by decide +kernel)
  have inX9 : ∀ w ∈ wsX90, w ∈ pw_season := by decide +kernel
  refine lv_aload_n hx hb dX12_season_0 rfl (lv_at hl 0 rfl) ?_
  refine va_get (ci := 9) (v := .ref (qa 9)) (C := RX12) (T := TX12) (N := 16) hx hb hts inX12 hown hK hP 0 rfl rfl 2 (by decide) lf38 (fun _ h9 => h9) rfl dX12_season_1 ?_
  refine va_get (ci := 8) (v := .int 0) (C := RX9) (T := TX9) (N := 11) hx hb hts inX9 hown hK hP 1 rfl rfl 7 (by decide) lf167 (fun _ h9 => h9) rfl dX12_season_4 ?_
  refine lv_iconst (v := 4) hx hb dX12_season_7 (by decide) ?_
  refine lv_irem hx hb dX12_season_8 (by decide) ?_
  refine p_topI (v := 0) (by decide) ?_
  exact hret _ _ _ _ _ _ 0 () (by decide) (by decide) dX12_season_9 rfl rfl (hP.sub [0, 1] rfl) (hD.sub [0, 1] (by decide) rfl) hS
def pw_netNow : List Cond := .code yX12_netNow cX12_netNow 1 (some (.object "RiverVows$Net")) :: ([.fieldLink RX12 58 "RiverVows" "net" "LRiverVows$Net;", .fieldLink RX12 19 "RiverVows" "country" "LRiverVows$Land;", .fieldLink RX12 38 "RiverVows" "now" "LRiverVows$Standing;", .fieldLink RX12 170 "RiverVows$Standing" "husband" "[I", .code yX5_lay cX5_lay 4 none, .code yX5_clear cX5_clear 3 none, .fieldLink RX5 18 "RiverVows$Net" "land" "LRiverVows$Land;", .fieldLink RX5 9 "RiverVows$Net" "husband" "[I", .fieldLink RX5 15 "RiverVows$Net" "whole" "[I", .methodLink RX5 22 yX5_clear, .instanceMethod yX5_clear, .selects RX5 yX5_clear yX5_clear, .initialized RX5, .fieldLink RX5 26 "RiverVows$Land" "rivers" "I", .methodLink RX12 173 yX5_lay, .instanceMethod yX5_lay, .selects RX5 yX5_lay yX5_lay] ++ wsX120 ++ wsX90 ++ wsX50 ++ wsX30)
set_option maxRecDepth 20000 in
theorem pg_netNow_0 : GoodIn pw_netNow (wsV RX12 173 RX5 yX5_lay pw_Net_lay) := goodIn_sub (by decide +kernel) (by decide +kernel)
set_option maxHeartbeats 4000000 in
set_option maxRecDepth 100000 in
theorem c_netNow (l : Launch) (D : va_G) (k : Nat → ClassId) (sz : Nat) (qa : Nat → Nat) (f : Nat → Int32) (g : Nat → Int32)  : pMr l yX12_netNow pw_netNow ({ frames := 2, cells := 0, slots := 0, locals := 45 }) D k [.ref (qa 0)] [((qa 0), .inr (9, [.ref (qa 1), .ref (qa 6), .ref (qa 9), .ref (qa 17), .ref (qa 18), .ref (qa 19), .ref (qa 20), .ref (qa 23), .ref (qa 25), .ref (qa 28), .ref (qa 29), .ref (qa 30), .ref (qa 31), .int 0, .int 0, .int 0])), ((qa 9), .inr (8, [.ref (qa 10), .ref (qa 11), .ref (qa 12), .ref (qa 13), .ref (qa 14), .ref (qa 15), .ref (qa 16), .int 0, .int (-1), .int 0, .int 0])), ((qa 30), .inr (2, [.ref (qa 133), .ref (qa 134), .ref (qa 135), .ref (qa 136), .ref (qa 137), .ref (qa 138), .ref (qa 139), .int 0, .int 0, .int 0, .int 0, .int 0])), ((qa 20), .inr (4, [.ref (qa 21), .ref (qa 22), .ref (qa 30)])), ((qa 21), .inl (k 1, 6, .inl f)), ((qa 22), .inl (k 1, 6, .inl g))] sz (S := (Nat → Int32) × (Nat → Int32)) (fun u => True) (qa 20) (fun u => [((qa 0), .inr (9, [.ref (qa 1), .ref (qa 6), .ref (qa 9), .ref (qa 17), .ref (qa 18), .ref (qa 19), .ref (qa 20), .ref (qa 23), .ref (qa 25), .ref (qa 28), .ref (qa 29), .ref (qa 30), .ref (qa 31), .int 0, .int 0, .int 0])), ((qa 9), .inr (8, [.ref (qa 10), .ref (qa 11), .ref (qa 12), .ref (qa 13), .ref (qa 14), .ref (qa 15), .ref (qa 16), .int 0, .int (-1), .int 0, .int 0])), ((qa 30), .inr (2, [.ref (qa 133), .ref (qa 134), .ref (qa 135), .ref (qa 136), .ref (qa 137), .ref (qa 138), .ref (qa 139), .int 0, .int 0, .int 0, .int 0, .int 0])), ((qa 20), .inr (4, [.ref (qa 21), .ref (qa 22), .ref (qa 30)])), ((qa 21), .inl (k 1, 6, .inl u.1)), ((qa 22), .inl (k 1, 6, .inl u.2))]) 0 0 := by
  refine p_ofr (cc := cX12_netNow) (maxL := 1) (rt := (.object "RiverVows$Net")) (by decide) rfl (Or.inl ⟨_, rfl⟩) (Nat.le_of_ble_eq_true rfl) ?_
  intro p e s m below meth c hx hb hml hown hts hK hN A hA hP hD hS Q hret ls hl
  have hl : lv_has ls 1 [(0, .ref (qa 0))] := hl
  have lf58 := hts (.fieldLink RX12 58 "RiverVows" "net" "LRiverVows$Net;") (by decide +kernel)
  have inX12 : ∀ w ∈ wsX120, w ∈ pw_netNow := by decide +kernel
  have lf19 := hts (.fieldLink RX12 19 "RiverVows" "country" "LRiverVows$Land;") (by decide +kernel)
  have lf38 := hts (.fieldLink RX12 38 "RiverVows" "now" "LRiverVows$Standing;") (by decide +kernel)
  have lf170 := hts (.fieldLink RX12 170 "RiverVows$Standing" "husband" "[I") (by decide +kernel)
  have inX9 : ∀ w ∈ wsX90, w ∈ pw_netNow := by decide +kernel
  refine lv_aload_n hx hb dX12_netNow_0 rfl (lv_at hl 0 rfl) ?_
  refine va_get (ci := 9) (v := .ref (qa 20)) (C := RX12) (T := TX12) (N := 16) hx hb hts inX12 hown hK hP 0 rfl rfl 6 (by decide) lf58 (fun _ h9 => h9) rfl dX12_netNow_1 ?_
  refine lv_aload_n hx hb dX12_netNow_4 rfl (lv_at hl 0 rfl) ?_
  refine va_get (ci := 9) (v := .ref (qa 30)) (C := RX12) (T := TX12) (N := 16) hx hb hts inX12 hown hK hP 0 rfl rfl 11 (by decide) lf19 (fun _ h9 => h9) rfl dX12_netNow_5 ?_
  refine lv_aload_n hx hb dX12_netNow_8 rfl (lv_at hl 0 rfl) ?_
  refine va_get (ci := 9) (v := .ref (qa 9)) (C := RX12) (T := TX12) (N := 16) hx hb hts inX12 hown hK hP 0 rfl rfl 2 (by decide) lf38 (fun _ h9 => h9) rfl dX12_netNow_9 ?_
  refine va_get (ci := 8) (v := .ref (qa 10)) (C := RX9) (T := TX9) (N := 11) hx hb hts inX9 hown hK hP 1 rfl rfl 0 (by decide) lf170 (fun _ h9 => h9) rfl dX12_netNow_12 ?_
  refine p_jv (wr := [((qa 0), .inr (9, [.ref (qa 1), .ref (qa 6), .ref (qa 9), .ref (qa 17), .ref (qa 18), .ref (qa 19), .ref (qa 20), .ref (qa 23), .ref (qa 25), .ref (qa 28), .ref (qa 29), .ref (qa 30), .ref (qa 31), .int 0, .int 0, .int 0])), ((qa 9), .inr (8, [.ref (qa 10), .ref (qa 11), .ref (qa 12), .ref (qa 13), .ref (qa 14), .ref (qa 15), .ref (qa 16), .int 0, .int (-1), .int 0, .int 0]))]) (va_runV (As := [.ref (qa 30), .ref (qa 10)]) (rest := []) ⟨hx, hb, hml, hown, hts⟩ (c_Net_lay l D k _ (qa 20) (qa 21) (qa 22) (qa 30) (qa 10) (.ref (qa 30)) f g (qa 133) (qa 134) (qa 135) (qa 136) (qa 137) (qa 138) (qa 139)) (cwV 2 hts pg_netNow_0 rfl rfl rfl (by decide +kernel) ⟨Nat.le_of_ble_eq_true rfl, Nat.le_of_ble_eq_true rfl⟩) (pV hK hN hP hD [3, 4, 5, 2] rfl (by decide) rfl 3 rfl rfl) rfl rfl hl.1 rfl (lv_room (Nat.le_of_ble_eq_true rfl)) dX12_netNow_15 ⟨by decide, by decide⟩) hP hD hS hA [3, 4, 5, 2] [0, 1] rfl rfl (by decide) (by decide) (fun ux1 H locs wx2 hP hD hS => ?_)
  obtain ⟨f9_x4, g9_x5⟩ := ux1
  have hP : va_P D vwCl [((qa 0), .inr (9, [.ref (qa 1), .ref (qa 6), .ref (qa 9), .ref (qa 17), .ref (qa 18), .ref (qa 19), .ref (qa 20), .ref (qa 23), .ref (qa 25), .ref (qa 28), .ref (qa 29), .ref (qa 30), .ref (qa 31), .int 0, .int 0, .int 0])), ((qa 9), .inr (8, [.ref (qa 10), .ref (qa 11), .ref (qa 12), .ref (qa 13), .ref (qa 14), .ref (qa 15), .ref (qa 16), .int 0, .int (-1), .int 0, .int 0])), ((qa 20), .inr (4, [.ref (qa 21), .ref (qa 22), .ref (qa 30)])), ((qa 21), .inl (k 1, 6, .inl f9_x4)), ((qa 22), .inl (k 1, 6, .inl g9_x5)), ((qa 30), .inr (2, [.ref (qa 133), .ref (qa 134), .ref (qa 135), .ref (qa 136), .ref (qa 137), .ref (qa 138), .ref (qa 139), .int 0, .int 0, .int 0, .int 0, .int 0]))] H := hP
  have hD : va_D A [((qa 0), .inr (9, [.ref (qa 1), .ref (qa 6), .ref (qa 9), .ref (qa 17), .ref (qa 18), .ref (qa 19), .ref (qa 20), .ref (qa 23), .ref (qa 25), .ref (qa 28), .ref (qa 29), .ref (qa 30), .ref (qa 31), .int 0, .int 0, .int 0])), ((qa 9), .inr (8, [.ref (qa 10), .ref (qa 11), .ref (qa 12), .ref (qa 13), .ref (qa 14), .ref (qa 15), .ref (qa 16), .int 0, .int (-1), .int 0, .int 0])), ((qa 20), .inr (4, [.ref (qa 21), .ref (qa 22), .ref (qa 30)])), ((qa 21), .inl (k 1, 6, .inl f9_x4)), ((qa 22), .inl (k 1, 6, .inl g9_x5)), ((qa 30), .inr (2, [.ref (qa 133), .ref (qa 134), .ref (qa 135), .ref (qa 136), .ref (qa 137), .ref (qa 138), .ref (qa 139), .int 0, .int 0, .int 0, .int 0, .int 0]))] := hD
  refine lv_aload_n hx hb dX12_netNow_18 rfl (lv_at hl 0 rfl) ?_
  refine va_get (ci := 9) (v := .ref (qa 20)) (C := RX12) (T := TX12) (N := 16) hx hb hts inX12 hown hK hP 0 rfl rfl 6 (by decide) lf58 (fun _ h9 => h9) rfl dX12_netNow_19 ?_
  exact hret _ _ _ _ _ _ (f9_x4, g9_x5) (by decide) (by decide) dX12_netNow_22 trivial (hP.sub [0, 1, 5, 2, 3, 4] rfl) (hD.sub [0, 1, 5, 2, 3, 4] (by decide) rfl) hS
def pw_flow : List Cond := .code yX12_flow cX12_flow 5 (some .int) :: ([.code yX12_isRiver cX12_isRiver 2 (some .boolean), .fieldLink RX12 19 "RiverVows" "country" "LRiverVows$Land;", .fieldLink RX12 151 "RiverVows$Land" "rivers" "I", .methodLink RX12 154 yX12_isRiver, .instanceMethod yX12_isRiver, .selects RX12 yX12_isRiver yX12_isRiver, .initialized RX12] ++ wsX120 ++ wsX30)
set_option maxRecDepth 20000 in
theorem pg_flow_0 : GoodIn pw_flow (wsV RX12 154 RX12 yX12_isRiver pw_isRiver) := goodIn_sub (by decide +kernel) (by decide +kernel)
set_option maxHeartbeats 4000000 in
set_option maxRecDepth 100000 in
theorem c_flow (l : Launch) (D : va_G) (k : Nat → ClassId) (sz : Nat) (qa : Nat → Nat) (p0 : Int32) (p1 : Int32) (p2 : Int32)  : pMi l yX12_flow pw_flow ({ frames := 1, cells := 0, slots := 0, locals := 21 }) D k [.ref (qa 0), .int p0, .int p1, .int p2] [((qa 0), .inr (9, [.ref (qa 1), .ref (qa 6), .ref (qa 9), .ref (qa 17), .ref (qa 18), .ref (qa 19), .ref (qa 20), .ref (qa 23), .ref (qa 25), .ref (qa 28), .ref (qa 29), .ref (qa 30), .ref (qa 31), .int 0, .int 0, .int 0])), ((qa 30), .inr (2, [.ref (qa 133), .ref (qa 134), .ref (qa 135), .ref (qa 136), .ref (qa 137), .ref (qa 138), .ref (qa 139), .int 0, .int 0, .int 0, .int 0, .int 0]))] sz (S := Unit) (fun r u => r = (-1)) (fun u => []) 0 0 := by
  refine p_ofi (cc := cX12_flow) (maxL := 5) (rt := .int) (by decide) rfl (Nat.le_of_ble_eq_true rfl) ?_
  intro p e s m below meth c hx hb hml hown hts hK hN A hA hP hD hS Q hret ls hl
  have hl : lv_has ls 5 [(0, .ref (qa 0)), (1, .int p0), (2, .int p1), (3, .int p2)] := hl
  refine lv_aload_n hx hb dX12_flow_0 rfl (lv_at hl 0 rfl) ?_
  refine lv_iload_n hx hb dX12_flow_1 rfl (lv_at hl 1 rfl) ?_
  refine p_ji (wr := []) (va_runV (As := [.int p0]) (rest := []) ⟨hx, hb, hml, hown, hts⟩ (c_isRiver l D k _ qa p0) (cwV 1 hts pg_flow_0 rfl rfl rfl (by decide +kernel) ⟨Nat.le_of_ble_eq_true rfl, Nat.le_of_ble_eq_true rfl⟩) (pV hK hN hP hD [0, 1] rfl (by decide) rfl 0 rfl rfl) rfl rfl hl.1 rfl (lv_room (Nat.le_of_ble_eq_true rfl)) dX12_flow_2 ⟨by decide, by decide⟩) hP hD hS hA [0, 1] [] rfl rfl (by decide) (by decide) (fun rx3 ux1 H locs wx2 hP hD hS => ?_)
  have hx4 : rx3 = 0 := wx2
  subst hx4
  have hP : va_P D vwCl [((qa 0), .inr (9, [.ref (qa 1), .ref (qa 6), .ref (qa 9), .ref (qa 17), .ref (qa 18), .ref (qa 19), .ref (qa 20), .ref (qa 23), .ref (qa 25), .ref (qa 28), .ref (qa 29), .ref (qa 30), .ref (qa 31), .int 0, .int 0, .int 0])), ((qa 30), .inr (2, [.ref (qa 133), .ref (qa 134), .ref (qa 135), .ref (qa 136), .ref (qa 137), .ref (qa 138), .ref (qa 139), .int 0, .int 0, .int 0, .int 0, .int 0]))] H := hP
  have hD : va_D A [((qa 0), .inr (9, [.ref (qa 1), .ref (qa 6), .ref (qa 9), .ref (qa 17), .ref (qa 18), .ref (qa 19), .ref (qa 20), .ref (qa 23), .ref (qa 25), .ref (qa 28), .ref (qa 29), .ref (qa 30), .ref (qa 31), .int 0, .int 0, .int 0])), ((qa 30), .inr (2, [.ref (qa 133), .ref (qa 134), .ref (qa 135), .ref (qa 136), .ref (qa 137), .ref (qa 138), .ref (qa 139), .int 0, .int 0, .int 0, .int 0, .int 0]))] := hD
  refine lv_if_eq (tgt := 15) hx hb dX12_flow_5 (by decide) (fun cx5 => ?_) (fun h9 => absurd (by decide) h9)
  refine lv_iconst (v := (-1)) hx hb dX12_flow_15 (by decide) ?_
  exact hret _ _ _ _ _ _ (-1) () (by decide) (by decide) dX12_flow_16 rfl rfl (hP.sub [] rfl) (hD.sub [] (by decide) rfl) hS
def pw_near : List Cond := .code yX12_near cX12_near 3 (some .int) :: ([.code yX12_isRiver cX12_isRiver 2 (some .boolean), .fieldLink RX12 19 "RiverVows" "country" "LRiverVows$Land;", .fieldLink RX12 151 "RiverVows$Land" "rivers" "I", .methodLink RX12 154 yX12_isRiver, .instanceMethod yX12_isRiver, .selects RX12 yX12_isRiver yX12_isRiver, .initialized RX12] ++ wsX120 ++ wsX30)
set_option maxRecDepth 20000 in
theorem pg_near_0 : GoodIn pw_near (wsV RX12 154 RX12 yX12_isRiver pw_isRiver) := goodIn_sub (by decide +kernel) (by decide +kernel)
set_option maxHeartbeats 4000000 in
set_option maxRecDepth 100000 in
theorem c_near (l : Launch) (D : va_G) (k : Nat → ClassId) (sz : Nat) (qa : Nat → Nat) (p0 : Int32) (p1 : Int32)  : pMi l yX12_near pw_near ({ frames := 1, cells := 0, slots := 0, locals := 21 }) D k [.ref (qa 0), .int p0, .int p1] [((qa 0), .inr (9, [.ref (qa 1), .ref (qa 6), .ref (qa 9), .ref (qa 17), .ref (qa 18), .ref (qa 19), .ref (qa 20), .ref (qa 23), .ref (qa 25), .ref (qa 28), .ref (qa 29), .ref (qa 30), .ref (qa 31), .int 0, .int 0, .int 0])), ((qa 30), .inr (2, [.ref (qa 133), .ref (qa 134), .ref (qa 135), .ref (qa 136), .ref (qa 137), .ref (qa 138), .ref (qa 139), .int 0, .int 0, .int 0, .int 0, .int 0]))] sz (S := Unit) (fun r u => r = (-1)) (fun u => []) 0 0 := by
  refine p_ofi (cc := cX12_near) (maxL := 3) (rt := .int) (by decide) rfl (Nat.le_of_ble_eq_true rfl) ?_
  intro p e s m below meth c hx hb hml hown hts hK hN A hA hP hD hS Q hret ls hl
  have hl : lv_has ls 3 [(0, .ref (qa 0)), (1, .int p0), (2, .int p1)] := hl
  refine lv_aload_n hx hb dX12_near_0 rfl (lv_at hl 0 rfl) ?_
  refine lv_iload_n hx hb dX12_near_1 rfl (lv_at hl 1 rfl) ?_
  refine p_ji (wr := []) (va_runV (As := [.int p0]) (rest := []) ⟨hx, hb, hml, hown, hts⟩ (c_isRiver l D k _ qa p0) (cwV 1 hts pg_near_0 rfl rfl rfl (by decide +kernel) ⟨Nat.le_of_ble_eq_true rfl, Nat.le_of_ble_eq_true rfl⟩) (pV hK hN hP hD [0, 1] rfl (by decide) rfl 0 rfl rfl) rfl rfl hl.1 rfl (lv_room (Nat.le_of_ble_eq_true rfl)) dX12_near_2 ⟨by decide, by decide⟩) hP hD hS hA [0, 1] [] rfl rfl (by decide) (by decide) (fun rx3 ux1 H locs wx2 hP hD hS => ?_)
  have hx4 : rx3 = 0 := wx2
  subst hx4
  have hP : va_P D vwCl [((qa 0), .inr (9, [.ref (qa 1), .ref (qa 6), .ref (qa 9), .ref (qa 17), .ref (qa 18), .ref (qa 19), .ref (qa 20), .ref (qa 23), .ref (qa 25), .ref (qa 28), .ref (qa 29), .ref (qa 30), .ref (qa 31), .int 0, .int 0, .int 0])), ((qa 30), .inr (2, [.ref (qa 133), .ref (qa 134), .ref (qa 135), .ref (qa 136), .ref (qa 137), .ref (qa 138), .ref (qa 139), .int 0, .int 0, .int 0, .int 0, .int 0]))] H := hP
  have hD : va_D A [((qa 0), .inr (9, [.ref (qa 1), .ref (qa 6), .ref (qa 9), .ref (qa 17), .ref (qa 18), .ref (qa 19), .ref (qa 20), .ref (qa 23), .ref (qa 25), .ref (qa 28), .ref (qa 29), .ref (qa 30), .ref (qa 31), .int 0, .int 0, .int 0])), ((qa 30), .inr (2, [.ref (qa 133), .ref (qa 134), .ref (qa 135), .ref (qa 136), .ref (qa 137), .ref (qa 138), .ref (qa 139), .int 0, .int 0, .int 0, .int 0, .int 0]))] := hD
  refine lv_if_eq (tgt := 28) hx hb dX12_near_5 (by decide) (fun cx5 => ?_) (fun h9 => absurd (by decide) h9)
  refine lv_iconst (v := (-1)) hx hb dX12_near_28 (by decide) ?_
  exact hret _ _ _ _ _ _ (-1) () (by decide) (by decide) dX12_near_29 rfl rfl (hP.sub [] rfl) (hD.sub [] (by decide) rfl) hS
def pw_dig : List Cond := .code yX12_dig cX12_dig 3 (some .int) :: ([.code yX12_areTwo cX12_areTwo 3 (some .boolean), .code yX12_isRiver cX12_isRiver 2 (some .boolean), .fieldLink RX12 19 "RiverVows" "country" "LRiverVows$Land;", .fieldLink RX12 151 "RiverVows$Land" "rivers" "I", .methodLink RX12 154 yX12_isRiver, .instanceMethod yX12_isRiver, .selects RX12 yX12_isRiver yX12_isRiver, .initialized RX12, .methodLink RX12 238 yX12_areTwo, .instanceMethod yX12_areTwo, .selects RX12 yX12_areTwo yX12_areTwo] ++ wsX120 ++ wsX30)
set_option maxRecDepth 20000 in
theorem pg_dig_0 : GoodIn pw_dig (wsV RX12 238 RX12 yX12_areTwo pw_areTwo) := goodIn_sub (by decide +kernel) (by decide +kernel)
set_option maxHeartbeats 4000000 in
set_option maxRecDepth 100000 in
theorem c_dig (l : Launch) (D : va_G) (k : Nat → ClassId) (sz : Nat) (qa : Nat → Nat) (p0 : Int32) (p1 : Int32)  : pMi l yX12_dig pw_dig ({ frames := 2, cells := 0, slots := 0, locals := 43 }) D k [.ref (qa 0), .int p0, .int p1] [((qa 0), .inr (9, [.ref (qa 1), .ref (qa 6), .ref (qa 9), .ref (qa 17), .ref (qa 18), .ref (qa 19), .ref (qa 20), .ref (qa 23), .ref (qa 25), .ref (qa 28), .ref (qa 29), .ref (qa 30), .ref (qa 31), .int 0, .int 0, .int 0])), ((qa 30), .inr (2, [.ref (qa 133), .ref (qa 134), .ref (qa 135), .ref (qa 136), .ref (qa 137), .ref (qa 138), .ref (qa 139), .int 0, .int 0, .int 0, .int 0, .int 0]))] sz (S := Unit) (fun r u => r = (-1)) (fun u => []) 0 0 := by
  refine p_ofi (cc := cX12_dig) (maxL := 3) (rt := .int) (by decide) rfl (Nat.le_of_ble_eq_true rfl) ?_
  intro p e s m below meth c hx hb hml hown hts hK hN A hA hP hD hS Q hret ls hl
  have hl : lv_has ls 3 [(0, .ref (qa 0)), (1, .int p0), (2, .int p1)] := hl
  refine lv_aload_n hx hb dX12_dig_0 rfl (lv_at hl 0 rfl) ?_
  refine lv_iload_n hx hb dX12_dig_1 rfl (lv_at hl 1 rfl) ?_
  refine lv_iload_n hx hb dX12_dig_2 rfl (lv_at hl 2 rfl) ?_
  refine p_ji (wr := []) (va_runV (As := [.int p0, .int p1]) (rest := []) ⟨hx, hb, hml, hown, hts⟩ (c_areTwo l D k _ qa p0 p1) (cwV 2 hts pg_dig_0 rfl rfl rfl (by decide +kernel) ⟨Nat.le_of_ble_eq_true rfl, Nat.le_of_ble_eq_true rfl⟩) (pV hK hN hP hD [0, 1] rfl (by decide) rfl 0 rfl rfl) rfl rfl hl.1 rfl (lv_room (Nat.le_of_ble_eq_true rfl)) dX12_dig_3 ⟨by decide, by decide⟩) hP hD hS hA [0, 1] [] rfl rfl (by decide) (by decide) (fun rx3 ux1 H locs wx2 hP hD hS => ?_)
  have hx4 : rx3 = 0 := wx2
  subst hx4
  have hP : va_P D vwCl [((qa 0), .inr (9, [.ref (qa 1), .ref (qa 6), .ref (qa 9), .ref (qa 17), .ref (qa 18), .ref (qa 19), .ref (qa 20), .ref (qa 23), .ref (qa 25), .ref (qa 28), .ref (qa 29), .ref (qa 30), .ref (qa 31), .int 0, .int 0, .int 0])), ((qa 30), .inr (2, [.ref (qa 133), .ref (qa 134), .ref (qa 135), .ref (qa 136), .ref (qa 137), .ref (qa 138), .ref (qa 139), .int 0, .int 0, .int 0, .int 0, .int 0]))] H := hP
  have hD : va_D A [((qa 0), .inr (9, [.ref (qa 1), .ref (qa 6), .ref (qa 9), .ref (qa 17), .ref (qa 18), .ref (qa 19), .ref (qa 20), .ref (qa 23), .ref (qa 25), .ref (qa 28), .ref (qa 29), .ref (qa 30), .ref (qa 31), .int 0, .int 0, .int 0])), ((qa 30), .inr (2, [.ref (qa 133), .ref (qa 134), .ref (qa 135), .ref (qa 136), .ref (qa 137), .ref (qa 138), .ref (qa 139), .int 0, .int 0, .int 0, .int 0, .int 0]))] := hD
  refine lv_if_eq (tgt := 21) hx hb dX12_dig_6 (by decide) (fun cx5 => ?_) (fun h9 => absurd (by decide) h9)
  refine lv_iconst (v := (-1)) hx hb dX12_dig_21 (by decide) ?_
  exact hret _ _ _ _ _ _ (-1) () (by decide) (by decide) dX12_dig_22 rfl rfl (hP.sub [] rfl) (hD.sub [] (by decide) rfl) hS
def pw_may : List Cond := .code yX12_may cX12_may 5 (some .int) :: ([.code yX12_isRiver cX12_isRiver 2 (some .boolean), .fieldLink RX12 19 "RiverVows" "country" "LRiverVows$Land;", .fieldLink RX12 151 "RiverVows$Land" "rivers" "I", .methodLink RX12 154 yX12_isRiver, .instanceMethod yX12_isRiver, .selects RX12 yX12_isRiver yX12_isRiver, .initialized RX12] ++ wsX120 ++ wsX30)
set_option maxRecDepth 20000 in
theorem pg_may_0 : GoodIn pw_may (wsV RX12 154 RX12 yX12_isRiver pw_isRiver) := goodIn_sub (by decide +kernel) (by decide +kernel)
set_option maxHeartbeats 4000000 in
set_option maxRecDepth 100000 in
theorem c_may (l : Launch) (D : va_G) (k : Nat → ClassId) (sz : Nat) (qa : Nat → Nat) (p0 : Int32)  : pMi l yX12_may pw_may ({ frames := 1, cells := 0, slots := 0, locals := 21 }) D k [.ref (qa 0), .int p0] [((qa 0), .inr (9, [.ref (qa 1), .ref (qa 6), .ref (qa 9), .ref (qa 17), .ref (qa 18), .ref (qa 19), .ref (qa 20), .ref (qa 23), .ref (qa 25), .ref (qa 28), .ref (qa 29), .ref (qa 30), .ref (qa 31), .int 0, .int 0, .int 0])), ((qa 30), .inr (2, [.ref (qa 133), .ref (qa 134), .ref (qa 135), .ref (qa 136), .ref (qa 137), .ref (qa 138), .ref (qa 139), .int 0, .int 0, .int 0, .int 0, .int 0]))] sz (S := Unit) (fun r u => r = (-1)) (fun u => []) 0 0 := by
  refine p_ofi (cc := cX12_may) (maxL := 5) (rt := .int) (by decide) rfl (Nat.le_of_ble_eq_true rfl) ?_
  intro p e s m below meth c hx hb hml hown hts hK hN A hA hP hD hS Q hret ls hl
  have hl : lv_has ls 5 [(0, .ref (qa 0)), (1, .int p0)] := hl
  refine lv_aload_n hx hb dX12_may_0 rfl (lv_at hl 0 rfl) ?_
  refine lv_iload_n hx hb dX12_may_1 rfl (lv_at hl 1 rfl) ?_
  refine p_ji (wr := []) (va_runV (As := [.int p0]) (rest := []) ⟨hx, hb, hml, hown, hts⟩ (c_isRiver l D k _ qa p0) (cwV 1 hts pg_may_0 rfl rfl rfl (by decide +kernel) ⟨Nat.le_of_ble_eq_true rfl, Nat.le_of_ble_eq_true rfl⟩) (pV hK hN hP hD [0, 1] rfl (by decide) rfl 0 rfl rfl) rfl rfl hl.1 rfl (lv_room (Nat.le_of_ble_eq_true rfl)) dX12_may_2 ⟨by decide, by decide⟩) hP hD hS hA [0, 1] [] rfl rfl (by decide) (by decide) (fun rx3 ux1 H locs wx2 hP hD hS => ?_)
  have hx4 : rx3 = 0 := wx2
  subst hx4
  have hP : va_P D vwCl [((qa 0), .inr (9, [.ref (qa 1), .ref (qa 6), .ref (qa 9), .ref (qa 17), .ref (qa 18), .ref (qa 19), .ref (qa 20), .ref (qa 23), .ref (qa 25), .ref (qa 28), .ref (qa 29), .ref (qa 30), .ref (qa 31), .int 0, .int 0, .int 0])), ((qa 30), .inr (2, [.ref (qa 133), .ref (qa 134), .ref (qa 135), .ref (qa 136), .ref (qa 137), .ref (qa 138), .ref (qa 139), .int 0, .int 0, .int 0, .int 0, .int 0]))] H := hP
  have hD : va_D A [((qa 0), .inr (9, [.ref (qa 1), .ref (qa 6), .ref (qa 9), .ref (qa 17), .ref (qa 18), .ref (qa 19), .ref (qa 20), .ref (qa 23), .ref (qa 25), .ref (qa 28), .ref (qa 29), .ref (qa 30), .ref (qa 31), .int 0, .int 0, .int 0])), ((qa 30), .inr (2, [.ref (qa 133), .ref (qa 134), .ref (qa 135), .ref (qa 136), .ref (qa 137), .ref (qa 138), .ref (qa 139), .int 0, .int 0, .int 0, .int 0, .int 0]))] := hD
  refine lv_if_ne (tgt := 10) hx hb dX12_may_5 (by decide) (fun h9 => absurd (by decide) h9) (fun cx5 => ?_)
  refine lv_iconst (v := (-1)) hx hb dX12_may_8 (by decide) ?_
  exact hret _ _ _ _ _ _ (-1) () (by decide) (by decide) dX12_may_9 rfl rfl (hP.sub [] rfl) (hD.sub [] (by decide) rfl) hS
def pw_wed : List Cond := .code yX12_wed cX12_wed 5 (some .int) :: ([.code yX12_areTwo cX12_areTwo 3 (some .boolean), .code yX12_isRiver cX12_isRiver 2 (some .boolean), .fieldLink RX12 19 "RiverVows" "country" "LRiverVows$Land;", .fieldLink RX12 151 "RiverVows$Land" "rivers" "I", .methodLink RX12 154 yX12_isRiver, .instanceMethod yX12_isRiver, .selects RX12 yX12_isRiver yX12_isRiver, .initialized RX12, .methodLink RX12 238 yX12_areTwo, .instanceMethod yX12_areTwo, .selects RX12 yX12_areTwo yX12_areTwo] ++ wsX120 ++ wsX30)
set_option maxRecDepth 20000 in
theorem pg_wed_0 : GoodIn pw_wed (wsV RX12 238 RX12 yX12_areTwo pw_areTwo) := goodIn_sub (by decide +kernel) (by decide +kernel)
set_option maxHeartbeats 4000000 in
set_option maxRecDepth 100000 in
theorem c_wed (l : Launch) (D : va_G) (k : Nat → ClassId) (sz : Nat) (qa : Nat → Nat) (p0 : Int32) (p1 : Int32)  : pMi l yX12_wed pw_wed ({ frames := 2, cells := 0, slots := 0, locals := 43 }) D k [.ref (qa 0), .int p0, .int p1] [((qa 0), .inr (9, [.ref (qa 1), .ref (qa 6), .ref (qa 9), .ref (qa 17), .ref (qa 18), .ref (qa 19), .ref (qa 20), .ref (qa 23), .ref (qa 25), .ref (qa 28), .ref (qa 29), .ref (qa 30), .ref (qa 31), .int 0, .int 0, .int 0])), ((qa 30), .inr (2, [.ref (qa 133), .ref (qa 134), .ref (qa 135), .ref (qa 136), .ref (qa 137), .ref (qa 138), .ref (qa 139), .int 0, .int 0, .int 0, .int 0, .int 0]))] sz (S := Unit) (fun r u => r = (-1)) (fun u => []) 0 0 := by
  refine p_ofi (cc := cX12_wed) (maxL := 5) (rt := .int) (by decide) rfl (Nat.le_of_ble_eq_true rfl) ?_
  intro p e s m below meth c hx hb hml hown hts hK hN A hA hP hD hS Q hret ls hl
  have hl : lv_has ls 5 [(0, .ref (qa 0)), (1, .int p0), (2, .int p1)] := hl
  refine lv_aload_n hx hb dX12_wed_0 rfl (lv_at hl 0 rfl) ?_
  refine lv_iload_n hx hb dX12_wed_1 rfl (lv_at hl 1 rfl) ?_
  refine lv_iload_n hx hb dX12_wed_2 rfl (lv_at hl 2 rfl) ?_
  refine p_ji (wr := []) (va_runV (As := [.int p0, .int p1]) (rest := []) ⟨hx, hb, hml, hown, hts⟩ (c_areTwo l D k _ qa p0 p1) (cwV 2 hts pg_wed_0 rfl rfl rfl (by decide +kernel) ⟨Nat.le_of_ble_eq_true rfl, Nat.le_of_ble_eq_true rfl⟩) (pV hK hN hP hD [0, 1] rfl (by decide) rfl 0 rfl rfl) rfl rfl hl.1 rfl (lv_room (Nat.le_of_ble_eq_true rfl)) dX12_wed_3 ⟨by decide, by decide⟩) hP hD hS hA [0, 1] [] rfl rfl (by decide) (by decide) (fun rx3 ux1 H locs wx2 hP hD hS => ?_)
  have hx4 : rx3 = 0 := wx2
  subst hx4
  have hP : va_P D vwCl [((qa 0), .inr (9, [.ref (qa 1), .ref (qa 6), .ref (qa 9), .ref (qa 17), .ref (qa 18), .ref (qa 19), .ref (qa 20), .ref (qa 23), .ref (qa 25), .ref (qa 28), .ref (qa 29), .ref (qa 30), .ref (qa 31), .int 0, .int 0, .int 0])), ((qa 30), .inr (2, [.ref (qa 133), .ref (qa 134), .ref (qa 135), .ref (qa 136), .ref (qa 137), .ref (qa 138), .ref (qa 139), .int 0, .int 0, .int 0, .int 0, .int 0]))] H := hP
  have hD : va_D A [((qa 0), .inr (9, [.ref (qa 1), .ref (qa 6), .ref (qa 9), .ref (qa 17), .ref (qa 18), .ref (qa 19), .ref (qa 20), .ref (qa 23), .ref (qa 25), .ref (qa 28), .ref (qa 29), .ref (qa 30), .ref (qa 31), .int 0, .int 0, .int 0])), ((qa 30), .inr (2, [.ref (qa 133), .ref (qa 134), .ref (qa 135), .ref (qa 136), .ref (qa 137), .ref (qa 138), .ref (qa 139), .int 0, .int 0, .int 0, .int 0, .int 0]))] := hD
  refine lv_if_eq (tgt := 21) hx hb dX12_wed_6 (by decide) (fun cx5 => ?_) (fun h9 => absurd (by decide) h9)
  refine lv_iconst (v := (-1)) hx hb dX12_wed_21 (by decide) ?_
  exact hret _ _ _ _ _ _ (-1) () (by decide) (by decide) dX12_wed_22 rfl rfl (hP.sub [] rfl) (hD.sub [] (by decide) rfl) hS
def pw_part : List Cond := .code yX12_part cX12_part 2 (some .boolean) :: ([.code yX12_isRiver cX12_isRiver 2 (some .boolean), .fieldLink RX12 19 "RiverVows" "country" "LRiverVows$Land;", .fieldLink RX12 151 "RiverVows$Land" "rivers" "I", .methodLink RX12 154 yX12_isRiver, .instanceMethod yX12_isRiver, .selects RX12 yX12_isRiver yX12_isRiver, .initialized RX12] ++ wsX120 ++ wsX30)
set_option maxRecDepth 20000 in
theorem pg_part_0 : GoodIn pw_part (wsV RX12 154 RX12 yX12_isRiver pw_isRiver) := goodIn_sub (by decide +kernel) (by decide +kernel)
set_option maxHeartbeats 4000000 in
set_option maxRecDepth 100000 in
theorem c_part (l : Launch) (D : va_G) (k : Nat → ClassId) (sz : Nat) (qa : Nat → Nat) (p0 : Int32)  : pMi l yX12_part pw_part ({ frames := 1, cells := 0, slots := 0, locals := 21 }) D k [.ref (qa 0), .int p0] [((qa 0), .inr (9, [.ref (qa 1), .ref (qa 6), .ref (qa 9), .ref (qa 17), .ref (qa 18), .ref (qa 19), .ref (qa 20), .ref (qa 23), .ref (qa 25), .ref (qa 28), .ref (qa 29), .ref (qa 30), .ref (qa 31), .int 0, .int 0, .int 0])), ((qa 30), .inr (2, [.ref (qa 133), .ref (qa 134), .ref (qa 135), .ref (qa 136), .ref (qa 137), .ref (qa 138), .ref (qa 139), .int 0, .int 0, .int 0, .int 0, .int 0]))] sz (S := Unit) (fun r u => r = 0) (fun u => []) 0 0 := by
  refine p_ofi (cc := cX12_part) (maxL := 2) (rt := .boolean) (by decide) rfl (Nat.le_of_ble_eq_true rfl) ?_
  intro p e s m below meth c hx hb hml hown hts hK hN A hA hP hD hS Q hret ls hl
  have hl : lv_has ls 2 [(0, .ref (qa 0)), (1, .int p0)] := hl
  refine lv_aload_n hx hb dX12_part_0 rfl (lv_at hl 0 rfl) ?_
  refine lv_iload_n hx hb dX12_part_1 rfl (lv_at hl 1 rfl) ?_
  refine p_ji (wr := []) (va_runV (As := [.int p0]) (rest := []) ⟨hx, hb, hml, hown, hts⟩ (c_isRiver l D k _ qa p0) (cwV 1 hts pg_part_0 rfl rfl rfl (by decide +kernel) ⟨Nat.le_of_ble_eq_true rfl, Nat.le_of_ble_eq_true rfl⟩) (pV hK hN hP hD [0, 1] rfl (by decide) rfl 0 rfl rfl) rfl rfl hl.1 rfl (lv_room (Nat.le_of_ble_eq_true rfl)) dX12_part_2 ⟨by decide, by decide⟩) hP hD hS hA [0, 1] [] rfl rfl (by decide) (by decide) (fun rx3 ux1 H locs wx2 hP hD hS => ?_)
  have hx4 : rx3 = 0 := wx2
  subst hx4
  have hP : va_P D vwCl [((qa 0), .inr (9, [.ref (qa 1), .ref (qa 6), .ref (qa 9), .ref (qa 17), .ref (qa 18), .ref (qa 19), .ref (qa 20), .ref (qa 23), .ref (qa 25), .ref (qa 28), .ref (qa 29), .ref (qa 30), .ref (qa 31), .int 0, .int 0, .int 0])), ((qa 30), .inr (2, [.ref (qa 133), .ref (qa 134), .ref (qa 135), .ref (qa 136), .ref (qa 137), .ref (qa 138), .ref (qa 139), .int 0, .int 0, .int 0, .int 0, .int 0]))] H := hP
  have hD : va_D A [((qa 0), .inr (9, [.ref (qa 1), .ref (qa 6), .ref (qa 9), .ref (qa 17), .ref (qa 18), .ref (qa 19), .ref (qa 20), .ref (qa 23), .ref (qa 25), .ref (qa 28), .ref (qa 29), .ref (qa 30), .ref (qa 31), .int 0, .int 0, .int 0])), ((qa 30), .inr (2, [.ref (qa 133), .ref (qa 134), .ref (qa 135), .ref (qa 136), .ref (qa 137), .ref (qa 138), .ref (qa 139), .int 0, .int 0, .int 0, .int 0, .int 0]))] := hD
  refine lv_if_eq (tgt := 21) hx hb dX12_part_5 (by decide) (fun cx5 => ?_) (fun h9 => absurd (by decide) h9)
  refine lv_iconst (v := 0) hx hb dX12_part_21 (by decide) ?_
  exact hret _ _ _ _ _ _ 0 () (by decide) (by decide) dX12_part_22 rfl rfl (hP.sub [] rfl) (hD.sub [] (by decide) rfl) hS
def pw_worn : List Cond := .code yX12_worn cX12_worn 3 (some .int) :: ([.code yX12_areTwo cX12_areTwo 3 (some .boolean), .code yX12_isRiver cX12_isRiver 2 (some .boolean), .fieldLink RX12 19 "RiverVows" "country" "LRiverVows$Land;", .fieldLink RX12 151 "RiverVows$Land" "rivers" "I", .methodLink RX12 154 yX12_isRiver, .instanceMethod yX12_isRiver, .selects RX12 yX12_isRiver yX12_isRiver, .initialized RX12, .methodLink RX12 238 yX12_areTwo, .instanceMethod yX12_areTwo, .selects RX12 yX12_areTwo yX12_areTwo] ++ wsX120 ++ wsX30)
set_option maxRecDepth 20000 in
theorem pg_worn_0 : GoodIn pw_worn (wsV RX12 238 RX12 yX12_areTwo pw_areTwo) := goodIn_sub (by decide +kernel) (by decide +kernel)
set_option maxHeartbeats 4000000 in
set_option maxRecDepth 100000 in
theorem c_worn (l : Launch) (D : va_G) (k : Nat → ClassId) (sz : Nat) (qa : Nat → Nat) (p0 : Int32) (p1 : Int32)  : pMi l yX12_worn pw_worn ({ frames := 2, cells := 0, slots := 0, locals := 43 }) D k [.ref (qa 0), .int p0, .int p1] [((qa 0), .inr (9, [.ref (qa 1), .ref (qa 6), .ref (qa 9), .ref (qa 17), .ref (qa 18), .ref (qa 19), .ref (qa 20), .ref (qa 23), .ref (qa 25), .ref (qa 28), .ref (qa 29), .ref (qa 30), .ref (qa 31), .int 0, .int 0, .int 0])), ((qa 30), .inr (2, [.ref (qa 133), .ref (qa 134), .ref (qa 135), .ref (qa 136), .ref (qa 137), .ref (qa 138), .ref (qa 139), .int 0, .int 0, .int 0, .int 0, .int 0]))] sz (S := Unit) (fun r u => r = (-1)) (fun u => []) 0 0 := by
  refine p_ofi (cc := cX12_worn) (maxL := 3) (rt := .int) (by decide) rfl (Nat.le_of_ble_eq_true rfl) ?_
  intro p e s m below meth c hx hb hml hown hts hK hN A hA hP hD hS Q hret ls hl
  have hl : lv_has ls 3 [(0, .ref (qa 0)), (1, .int p0), (2, .int p1)] := hl
  refine lv_aload_n hx hb dX12_worn_0 rfl (lv_at hl 0 rfl) ?_
  refine lv_iload_n hx hb dX12_worn_1 rfl (lv_at hl 1 rfl) ?_
  refine lv_iload_n hx hb dX12_worn_2 rfl (lv_at hl 2 rfl) ?_
  refine p_ji (wr := []) (va_runV (As := [.int p0, .int p1]) (rest := []) ⟨hx, hb, hml, hown, hts⟩ (c_areTwo l D k _ qa p0 p1) (cwV 2 hts pg_worn_0 rfl rfl rfl (by decide +kernel) ⟨Nat.le_of_ble_eq_true rfl, Nat.le_of_ble_eq_true rfl⟩) (pV hK hN hP hD [0, 1] rfl (by decide) rfl 0 rfl rfl) rfl rfl hl.1 rfl (lv_room (Nat.le_of_ble_eq_true rfl)) dX12_worn_3 ⟨by decide, by decide⟩) hP hD hS hA [0, 1] [] rfl rfl (by decide) (by decide) (fun rx3 ux1 H locs wx2 hP hD hS => ?_)
  have hx4 : rx3 = 0 := wx2
  subst hx4
  have hP : va_P D vwCl [((qa 0), .inr (9, [.ref (qa 1), .ref (qa 6), .ref (qa 9), .ref (qa 17), .ref (qa 18), .ref (qa 19), .ref (qa 20), .ref (qa 23), .ref (qa 25), .ref (qa 28), .ref (qa 29), .ref (qa 30), .ref (qa 31), .int 0, .int 0, .int 0])), ((qa 30), .inr (2, [.ref (qa 133), .ref (qa 134), .ref (qa 135), .ref (qa 136), .ref (qa 137), .ref (qa 138), .ref (qa 139), .int 0, .int 0, .int 0, .int 0, .int 0]))] H := hP
  have hD : va_D A [((qa 0), .inr (9, [.ref (qa 1), .ref (qa 6), .ref (qa 9), .ref (qa 17), .ref (qa 18), .ref (qa 19), .ref (qa 20), .ref (qa 23), .ref (qa 25), .ref (qa 28), .ref (qa 29), .ref (qa 30), .ref (qa 31), .int 0, .int 0, .int 0])), ((qa 30), .inr (2, [.ref (qa 133), .ref (qa 134), .ref (qa 135), .ref (qa 136), .ref (qa 137), .ref (qa 138), .ref (qa 139), .int 0, .int 0, .int 0, .int 0, .int 0]))] := hD
  refine lv_if_eq (tgt := 18) hx hb dX12_worn_6 (by decide) (fun cx5 => ?_) (fun h9 => absurd (by decide) h9)
  refine lv_iconst (v := (-1)) hx hb dX12_worn_18 (by decide) ?_
  exact hret _ _ _ _ _ _ (-1) () (by decide) (by decide) dX12_worn_19 rfl rfl (hP.sub [] rfl) (hD.sub [] (by decide) rfl) hS
def pw_love : List Cond := .code yX12_love cX12_love 6 (some .int) :: ([.code yX12_isRiver cX12_isRiver 2 (some .boolean), .fieldLink RX12 19 "RiverVows" "country" "LRiverVows$Land;", .fieldLink RX12 151 "RiverVows$Land" "rivers" "I", .methodLink RX12 154 yX12_isRiver, .instanceMethod yX12_isRiver, .selects RX12 yX12_isRiver yX12_isRiver, .initialized RX12] ++ wsX120 ++ wsX30)
set_option maxRecDepth 20000 in
theorem pg_love_0 : GoodIn pw_love (wsV RX12 154 RX12 yX12_isRiver pw_isRiver) := goodIn_sub (by decide +kernel) (by decide +kernel)
set_option maxHeartbeats 4000000 in
set_option maxRecDepth 100000 in
theorem c_love (l : Launch) (D : va_G) (k : Nat → ClassId) (sz : Nat) (qa : Nat → Nat) (p0 : Int32)  : pMi l yX12_love pw_love ({ frames := 1, cells := 0, slots := 0, locals := 21 }) D k [.ref (qa 0), .int p0] [((qa 0), .inr (9, [.ref (qa 1), .ref (qa 6), .ref (qa 9), .ref (qa 17), .ref (qa 18), .ref (qa 19), .ref (qa 20), .ref (qa 23), .ref (qa 25), .ref (qa 28), .ref (qa 29), .ref (qa 30), .ref (qa 31), .int 0, .int 0, .int 0])), ((qa 30), .inr (2, [.ref (qa 133), .ref (qa 134), .ref (qa 135), .ref (qa 136), .ref (qa 137), .ref (qa 138), .ref (qa 139), .int 0, .int 0, .int 0, .int 0, .int 0]))] sz (S := Unit) (fun r u => r = (-1)) (fun u => []) 0 0 := by
  refine p_ofi (cc := cX12_love) (maxL := 6) (rt := .int) (by decide) rfl (Nat.le_of_ble_eq_true rfl) ?_
  intro p e s m below meth c hx hb hml hown hts hK hN A hA hP hD hS Q hret ls hl
  have hl : lv_has ls 6 [(0, .ref (qa 0)), (1, .int p0)] := hl
  refine lv_aload_n hx hb dX12_love_0 rfl (lv_at hl 0 rfl) ?_
  refine lv_iload_n hx hb dX12_love_1 rfl (lv_at hl 1 rfl) ?_
  refine p_ji (wr := []) (va_runV (As := [.int p0]) (rest := []) ⟨hx, hb, hml, hown, hts⟩ (c_isRiver l D k _ qa p0) (cwV 1 hts pg_love_0 rfl rfl rfl (by decide +kernel) ⟨Nat.le_of_ble_eq_true rfl, Nat.le_of_ble_eq_true rfl⟩) (pV hK hN hP hD [0, 1] rfl (by decide) rfl 0 rfl rfl) rfl rfl hl.1 rfl (lv_room (Nat.le_of_ble_eq_true rfl)) dX12_love_2 ⟨by decide, by decide⟩) hP hD hS hA [0, 1] [] rfl rfl (by decide) (by decide) (fun rx3 ux1 H locs wx2 hP hD hS => ?_)
  have hx4 : rx3 = 0 := wx2
  subst hx4
  have hP : va_P D vwCl [((qa 0), .inr (9, [.ref (qa 1), .ref (qa 6), .ref (qa 9), .ref (qa 17), .ref (qa 18), .ref (qa 19), .ref (qa 20), .ref (qa 23), .ref (qa 25), .ref (qa 28), .ref (qa 29), .ref (qa 30), .ref (qa 31), .int 0, .int 0, .int 0])), ((qa 30), .inr (2, [.ref (qa 133), .ref (qa 134), .ref (qa 135), .ref (qa 136), .ref (qa 137), .ref (qa 138), .ref (qa 139), .int 0, .int 0, .int 0, .int 0, .int 0]))] H := hP
  have hD : va_D A [((qa 0), .inr (9, [.ref (qa 1), .ref (qa 6), .ref (qa 9), .ref (qa 17), .ref (qa 18), .ref (qa 19), .ref (qa 20), .ref (qa 23), .ref (qa 25), .ref (qa 28), .ref (qa 29), .ref (qa 30), .ref (qa 31), .int 0, .int 0, .int 0])), ((qa 30), .inr (2, [.ref (qa 133), .ref (qa 134), .ref (qa 135), .ref (qa 136), .ref (qa 137), .ref (qa 138), .ref (qa 139), .int 0, .int 0, .int 0, .int 0, .int 0]))] := hD
  refine lv_if_ne (tgt := 10) hx hb dX12_love_5 (by decide) (fun h9 => absurd (by decide) h9) (fun cx5 => ?_)
  refine lv_iconst (v := (-1)) hx hb dX12_love_8 (by decide) ?_
  exact hret _ _ _ _ _ _ (-1) () (by decide) (by decide) dX12_love_9 rfl rfl (hP.sub [] rfl) (hD.sub [] (by decide) rfl) hS
def pw_hyphen : List Cond := .code yX12_hyphen cX12_hyphen 5 (some .int) :: ([.code yX12_isRiver cX12_isRiver 2 (some .boolean), .fieldLink RX12 19 "RiverVows" "country" "LRiverVows$Land;", .fieldLink RX12 151 "RiverVows$Land" "rivers" "I", .methodLink RX12 154 yX12_isRiver, .instanceMethod yX12_isRiver, .selects RX12 yX12_isRiver yX12_isRiver, .initialized RX12] ++ wsX120 ++ wsX30)
set_option maxRecDepth 20000 in
theorem pg_hyphen_0 : GoodIn pw_hyphen (wsV RX12 154 RX12 yX12_isRiver pw_isRiver) := goodIn_sub (by decide +kernel) (by decide +kernel)
set_option maxHeartbeats 4000000 in
set_option maxRecDepth 100000 in
theorem c_hyphen (l : Launch) (D : va_G) (k : Nat → ClassId) (sz : Nat) (qa : Nat → Nat) (p0 : Int32)  : pMi l yX12_hyphen pw_hyphen ({ frames := 1, cells := 0, slots := 0, locals := 21 }) D k [.ref (qa 0), .int p0] [((qa 0), .inr (9, [.ref (qa 1), .ref (qa 6), .ref (qa 9), .ref (qa 17), .ref (qa 18), .ref (qa 19), .ref (qa 20), .ref (qa 23), .ref (qa 25), .ref (qa 28), .ref (qa 29), .ref (qa 30), .ref (qa 31), .int 0, .int 0, .int 0])), ((qa 30), .inr (2, [.ref (qa 133), .ref (qa 134), .ref (qa 135), .ref (qa 136), .ref (qa 137), .ref (qa 138), .ref (qa 139), .int 0, .int 0, .int 0, .int 0, .int 0]))] sz (S := Unit) (fun r u => r = (-1)) (fun u => []) 0 0 := by
  refine p_ofi (cc := cX12_hyphen) (maxL := 5) (rt := .int) (by decide) rfl (Nat.le_of_ble_eq_true rfl) ?_
  intro p e s m below meth c hx hb hml hown hts hK hN A hA hP hD hS Q hret ls hl
  have hl : lv_has ls 5 [(0, .ref (qa 0)), (1, .int p0)] := hl
  refine lv_aload_n hx hb dX12_hyphen_0 rfl (lv_at hl 0 rfl) ?_
  refine lv_iload_n hx hb dX12_hyphen_1 rfl (lv_at hl 1 rfl) ?_
  refine p_ji (wr := []) (va_runV (As := [.int p0]) (rest := []) ⟨hx, hb, hml, hown, hts⟩ (c_isRiver l D k _ qa p0) (cwV 1 hts pg_hyphen_0 rfl rfl rfl (by decide +kernel) ⟨Nat.le_of_ble_eq_true rfl, Nat.le_of_ble_eq_true rfl⟩) (pV hK hN hP hD [0, 1] rfl (by decide) rfl 0 rfl rfl) rfl rfl hl.1 rfl (lv_room (Nat.le_of_ble_eq_true rfl)) dX12_hyphen_2 ⟨by decide, by decide⟩) hP hD hS hA [0, 1] [] rfl rfl (by decide) (by decide) (fun rx3 ux1 H locs wx2 hP hD hS => ?_)
  have hx4 : rx3 = 0 := wx2
  subst hx4
  have hP : va_P D vwCl [((qa 0), .inr (9, [.ref (qa 1), .ref (qa 6), .ref (qa 9), .ref (qa 17), .ref (qa 18), .ref (qa 19), .ref (qa 20), .ref (qa 23), .ref (qa 25), .ref (qa 28), .ref (qa 29), .ref (qa 30), .ref (qa 31), .int 0, .int 0, .int 0])), ((qa 30), .inr (2, [.ref (qa 133), .ref (qa 134), .ref (qa 135), .ref (qa 136), .ref (qa 137), .ref (qa 138), .ref (qa 139), .int 0, .int 0, .int 0, .int 0, .int 0]))] H := hP
  have hD : va_D A [((qa 0), .inr (9, [.ref (qa 1), .ref (qa 6), .ref (qa 9), .ref (qa 17), .ref (qa 18), .ref (qa 19), .ref (qa 20), .ref (qa 23), .ref (qa 25), .ref (qa 28), .ref (qa 29), .ref (qa 30), .ref (qa 31), .int 0, .int 0, .int 0])), ((qa 30), .inr (2, [.ref (qa 133), .ref (qa 134), .ref (qa 135), .ref (qa 136), .ref (qa 137), .ref (qa 138), .ref (qa 139), .int 0, .int 0, .int 0, .int 0, .int 0]))] := hD
  refine lv_if_ne (tgt := 10) hx hb dX12_hyphen_5 (by decide) (fun h9 => absurd (by decide) h9) (fun cx5 => ?_)
  refine lv_iconst (v := (-1)) hx hb dX12_hyphen_8 (by decide) ?_
  exact hret _ _ _ _ _ _ (-1) () (by decide) (by decide) dX12_hyphen_9 rfl rfl (hP.sub [] rfl) (hD.sub [] (by decide) rfl) hS
def pw_chain : List Cond := .code yX12_chain cX12_chain 6 (some .int) :: ([.code yX12_areTwo cX12_areTwo 3 (some .boolean), .code yX12_isRiver cX12_isRiver 2 (some .boolean), .fieldLink RX12 19 "RiverVows" "country" "LRiverVows$Land;", .fieldLink RX12 151 "RiverVows$Land" "rivers" "I", .methodLink RX12 154 yX12_isRiver, .instanceMethod yX12_isRiver, .selects RX12 yX12_isRiver yX12_isRiver, .initialized RX12, .methodLink RX12 238 yX12_areTwo, .instanceMethod yX12_areTwo, .selects RX12 yX12_areTwo yX12_areTwo] ++ wsX120 ++ wsX30)
set_option maxRecDepth 20000 in
theorem pg_chain_0 : GoodIn pw_chain (wsV RX12 238 RX12 yX12_areTwo pw_areTwo) := goodIn_sub (by decide +kernel) (by decide +kernel)
set_option maxHeartbeats 4000000 in
set_option maxRecDepth 100000 in
theorem c_chain (l : Launch) (D : va_G) (k : Nat → ClassId) (sz : Nat) (qa : Nat → Nat) (p0 : Int32) (p1 : Int32) (p2 : Int32)  : pMi l yX12_chain pw_chain ({ frames := 2, cells := 0, slots := 0, locals := 43 }) D k [.ref (qa 0), .int p0, .int p1, .int p2] [((qa 0), .inr (9, [.ref (qa 1), .ref (qa 6), .ref (qa 9), .ref (qa 17), .ref (qa 18), .ref (qa 19), .ref (qa 20), .ref (qa 23), .ref (qa 25), .ref (qa 28), .ref (qa 29), .ref (qa 30), .ref (qa 31), .int 0, .int 0, .int 0])), ((qa 30), .inr (2, [.ref (qa 133), .ref (qa 134), .ref (qa 135), .ref (qa 136), .ref (qa 137), .ref (qa 138), .ref (qa 139), .int 0, .int 0, .int 0, .int 0, .int 0]))] sz (S := Unit) (fun r u => r = (-1)) (fun u => []) 0 0 := by
  refine p_ofi (cc := cX12_chain) (maxL := 6) (rt := .int) (by decide) rfl (Nat.le_of_ble_eq_true rfl) ?_
  intro p e s m below meth c hx hb hml hown hts hK hN A hA hP hD hS Q hret ls hl
  have hl : lv_has ls 6 [(0, .ref (qa 0)), (1, .int p0), (2, .int p1), (3, .int p2)] := hl
  refine lv_aload_n hx hb dX12_chain_0 rfl (lv_at hl 0 rfl) ?_
  refine lv_iload_n hx hb dX12_chain_1 rfl (lv_at hl 1 rfl) ?_
  refine lv_iload_n hx hb dX12_chain_2 rfl (lv_at hl 2 rfl) ?_
  refine p_ji (wr := []) (va_runV (As := [.int p0, .int p1]) (rest := []) ⟨hx, hb, hml, hown, hts⟩ (c_areTwo l D k _ qa p0 p1) (cwV 2 hts pg_chain_0 rfl rfl rfl (by decide +kernel) ⟨Nat.le_of_ble_eq_true rfl, Nat.le_of_ble_eq_true rfl⟩) (pV hK hN hP hD [0, 1] rfl (by decide) rfl 0 rfl rfl) rfl rfl hl.1 rfl (lv_room (Nat.le_of_ble_eq_true rfl)) dX12_chain_3 ⟨by decide, by decide⟩) hP hD hS hA [0, 1] [] rfl rfl (by decide) (by decide) (fun rx3 ux1 H locs wx2 hP hD hS => ?_)
  have hx4 : rx3 = 0 := wx2
  subst hx4
  have hP : va_P D vwCl [((qa 0), .inr (9, [.ref (qa 1), .ref (qa 6), .ref (qa 9), .ref (qa 17), .ref (qa 18), .ref (qa 19), .ref (qa 20), .ref (qa 23), .ref (qa 25), .ref (qa 28), .ref (qa 29), .ref (qa 30), .ref (qa 31), .int 0, .int 0, .int 0])), ((qa 30), .inr (2, [.ref (qa 133), .ref (qa 134), .ref (qa 135), .ref (qa 136), .ref (qa 137), .ref (qa 138), .ref (qa 139), .int 0, .int 0, .int 0, .int 0, .int 0]))] H := hP
  have hD : va_D A [((qa 0), .inr (9, [.ref (qa 1), .ref (qa 6), .ref (qa 9), .ref (qa 17), .ref (qa 18), .ref (qa 19), .ref (qa 20), .ref (qa 23), .ref (qa 25), .ref (qa 28), .ref (qa 29), .ref (qa 30), .ref (qa 31), .int 0, .int 0, .int 0])), ((qa 30), .inr (2, [.ref (qa 133), .ref (qa 134), .ref (qa 135), .ref (qa 136), .ref (qa 137), .ref (qa 138), .ref (qa 139), .int 0, .int 0, .int 0, .int 0, .int 0]))] := hD
  refine lv_if_eq (tgt := 13) hx hb dX12_chain_6 (by decide) (fun cx5 => ?_) (fun h9 => absurd (by decide) h9)
  refine lv_iconst (v := (-1)) hx hb dX12_chain_13 (by decide) ?_
  exact hret _ _ _ _ _ _ (-1) () (by decide) (by decide) dX12_chain_14 rfl rfl (hP.sub [] rfl) (hD.sub [] (by decide) rfl) hS
def pw_rests : List Cond := .code yX12_rests cX12_rests 10 (some .int) :: ([.code yX12_isRiver cX12_isRiver 2 (some .boolean), .fieldLink RX12 19 "RiverVows" "country" "LRiverVows$Land;", .fieldLink RX12 151 "RiverVows$Land" "rivers" "I", .methodLink RX12 154 yX12_isRiver, .instanceMethod yX12_isRiver, .selects RX12 yX12_isRiver yX12_isRiver, .initialized RX12] ++ wsX120 ++ wsX30)
set_option maxRecDepth 20000 in
theorem pg_rests_0 : GoodIn pw_rests (wsV RX12 154 RX12 yX12_isRiver pw_isRiver) := goodIn_sub (by decide +kernel) (by decide +kernel)
set_option maxHeartbeats 4000000 in
set_option maxRecDepth 100000 in
theorem c_rests (l : Launch) (D : va_G) (k : Nat → ClassId) (sz : Nat) (qa : Nat → Nat) (p0 : Int32) (p1 : Int32) (p2 : Int32) (p3 : Int32)  : pMi l yX12_rests pw_rests ({ frames := 1, cells := 0, slots := 0, locals := 21 }) D k [.ref (qa 0), .int p0, .int p1, .int p2, .int p3] [((qa 0), .inr (9, [.ref (qa 1), .ref (qa 6), .ref (qa 9), .ref (qa 17), .ref (qa 18), .ref (qa 19), .ref (qa 20), .ref (qa 23), .ref (qa 25), .ref (qa 28), .ref (qa 29), .ref (qa 30), .ref (qa 31), .int 0, .int 0, .int 0])), ((qa 30), .inr (2, [.ref (qa 133), .ref (qa 134), .ref (qa 135), .ref (qa 136), .ref (qa 137), .ref (qa 138), .ref (qa 139), .int 0, .int 0, .int 0, .int 0, .int 0]))] sz (S := Unit) (fun r u => r = (-1)) (fun u => []) 0 0 := by
  refine p_ofi (cc := cX12_rests) (maxL := 10) (rt := .int) (by decide) rfl (Nat.le_of_ble_eq_true rfl) ?_
  intro p e s m below meth c hx hb hml hown hts hK hN A hA hP hD hS Q hret ls hl
  have hl : lv_has ls 10 [(0, .ref (qa 0)), (1, .int p0), (2, .int p1), (3, .int p2), (4, .int p3)] := hl
  refine lv_aload_n hx hb dX12_rests_0 rfl (lv_at hl 0 rfl) ?_
  refine lv_iload_n hx hb dX12_rests_1 rfl (lv_at hl 1 rfl) ?_
  refine p_ji (wr := []) (va_runV (As := [.int p0]) (rest := []) ⟨hx, hb, hml, hown, hts⟩ (c_isRiver l D k _ qa p0) (cwV 1 hts pg_rests_0 rfl rfl rfl (by decide +kernel) ⟨Nat.le_of_ble_eq_true rfl, Nat.le_of_ble_eq_true rfl⟩) (pV hK hN hP hD [0, 1] rfl (by decide) rfl 0 rfl rfl) rfl rfl hl.1 rfl (lv_room (Nat.le_of_ble_eq_true rfl)) dX12_rests_2 ⟨by decide, by decide⟩) hP hD hS hA [0, 1] [] rfl rfl (by decide) (by decide) (fun rx3 ux1 H locs wx2 hP hD hS => ?_)
  have hx4 : rx3 = 0 := wx2
  subst hx4
  have hP : va_P D vwCl [((qa 0), .inr (9, [.ref (qa 1), .ref (qa 6), .ref (qa 9), .ref (qa 17), .ref (qa 18), .ref (qa 19), .ref (qa 20), .ref (qa 23), .ref (qa 25), .ref (qa 28), .ref (qa 29), .ref (qa 30), .ref (qa 31), .int 0, .int 0, .int 0])), ((qa 30), .inr (2, [.ref (qa 133), .ref (qa 134), .ref (qa 135), .ref (qa 136), .ref (qa 137), .ref (qa 138), .ref (qa 139), .int 0, .int 0, .int 0, .int 0, .int 0]))] H := hP
  have hD : va_D A [((qa 0), .inr (9, [.ref (qa 1), .ref (qa 6), .ref (qa 9), .ref (qa 17), .ref (qa 18), .ref (qa 19), .ref (qa 20), .ref (qa 23), .ref (qa 25), .ref (qa 28), .ref (qa 29), .ref (qa 30), .ref (qa 31), .int 0, .int 0, .int 0])), ((qa 30), .inr (2, [.ref (qa 133), .ref (qa 134), .ref (qa 135), .ref (qa 136), .ref (qa 137), .ref (qa 138), .ref (qa 139), .int 0, .int 0, .int 0, .int 0, .int 0]))] := hD
  refine lv_if_eq (tgt := 23) hx hb dX12_rests_5 (by decide) (fun cx5 => ?_) (fun h9 => absurd (by decide) h9)
  refine lv_iconst (v := (-1)) hx hb dX12_rests_23 (by decide) ?_
  exact hret _ _ _ _ _ _ (-1) () (by decide) (by decide) dX12_rests_24 rfl rfl (hP.sub [] rfl) (hD.sub [] (by decide) rfl) hS
def pw_dams : List Cond := .code yX12_dams cX12_dams 7 (some .int) :: ([.code yX12_areTwo cX12_areTwo 3 (some .boolean), .code yX12_isRiver cX12_isRiver 2 (some .boolean), .fieldLink RX12 19 "RiverVows" "country" "LRiverVows$Land;", .fieldLink RX12 151 "RiverVows$Land" "rivers" "I", .methodLink RX12 154 yX12_isRiver, .instanceMethod yX12_isRiver, .selects RX12 yX12_isRiver yX12_isRiver, .initialized RX12, .methodLink RX12 238 yX12_areTwo, .instanceMethod yX12_areTwo, .selects RX12 yX12_areTwo yX12_areTwo] ++ wsX120 ++ wsX30)
set_option maxRecDepth 20000 in
theorem pg_dams_0 : GoodIn pw_dams (wsV RX12 238 RX12 yX12_areTwo pw_areTwo) := goodIn_sub (by decide +kernel) (by decide +kernel)
set_option maxHeartbeats 4000000 in
set_option maxRecDepth 100000 in
theorem c_dams (l : Launch) (D : va_G) (k : Nat → ClassId) (sz : Nat) (qa : Nat → Nat) (p0 : Int32) (p1 : Int32) (p2 : Int32)  : pMi l yX12_dams pw_dams ({ frames := 2, cells := 0, slots := 0, locals := 43 }) D k [.ref (qa 0), .int p0, .int p1, .int p2] [((qa 0), .inr (9, [.ref (qa 1), .ref (qa 6), .ref (qa 9), .ref (qa 17), .ref (qa 18), .ref (qa 19), .ref (qa 20), .ref (qa 23), .ref (qa 25), .ref (qa 28), .ref (qa 29), .ref (qa 30), .ref (qa 31), .int 0, .int 0, .int 0])), ((qa 30), .inr (2, [.ref (qa 133), .ref (qa 134), .ref (qa 135), .ref (qa 136), .ref (qa 137), .ref (qa 138), .ref (qa 139), .int 0, .int 0, .int 0, .int 0, .int 0]))] sz (S := Unit) (fun r u => r = (-1)) (fun u => []) 0 0 := by
  refine p_ofi (cc := cX12_dams) (maxL := 7) (rt := .int) (by decide) rfl (Nat.le_of_ble_eq_true rfl) ?_
  intro p e s m below meth c hx hb hml hown hts hK hN A hA hP hD hS Q hret ls hl
  have hl : lv_has ls 7 [(0, .ref (qa 0)), (1, .int p0), (2, .int p1), (3, .int p2)] := hl
  refine lv_aload_n hx hb dX12_dams_0 rfl (lv_at hl 0 rfl) ?_
  refine lv_iload_n hx hb dX12_dams_1 rfl (lv_at hl 1 rfl) ?_
  refine lv_iload_n hx hb dX12_dams_2 rfl (lv_at hl 2 rfl) ?_
  refine p_ji (wr := []) (va_runV (As := [.int p0, .int p1]) (rest := []) ⟨hx, hb, hml, hown, hts⟩ (c_areTwo l D k _ qa p0 p1) (cwV 2 hts pg_dams_0 rfl rfl rfl (by decide +kernel) ⟨Nat.le_of_ble_eq_true rfl, Nat.le_of_ble_eq_true rfl⟩) (pV hK hN hP hD [0, 1] rfl (by decide) rfl 0 rfl rfl) rfl rfl hl.1 rfl (lv_room (Nat.le_of_ble_eq_true rfl)) dX12_dams_3 ⟨by decide, by decide⟩) hP hD hS hA [0, 1] [] rfl rfl (by decide) (by decide) (fun rx3 ux1 H locs wx2 hP hD hS => ?_)
  have hx4 : rx3 = 0 := wx2
  subst hx4
  have hP : va_P D vwCl [((qa 0), .inr (9, [.ref (qa 1), .ref (qa 6), .ref (qa 9), .ref (qa 17), .ref (qa 18), .ref (qa 19), .ref (qa 20), .ref (qa 23), .ref (qa 25), .ref (qa 28), .ref (qa 29), .ref (qa 30), .ref (qa 31), .int 0, .int 0, .int 0])), ((qa 30), .inr (2, [.ref (qa 133), .ref (qa 134), .ref (qa 135), .ref (qa 136), .ref (qa 137), .ref (qa 138), .ref (qa 139), .int 0, .int 0, .int 0, .int 0, .int 0]))] H := hP
  have hD : va_D A [((qa 0), .inr (9, [.ref (qa 1), .ref (qa 6), .ref (qa 9), .ref (qa 17), .ref (qa 18), .ref (qa 19), .ref (qa 20), .ref (qa 23), .ref (qa 25), .ref (qa 28), .ref (qa 29), .ref (qa 30), .ref (qa 31), .int 0, .int 0, .int 0])), ((qa 30), .inr (2, [.ref (qa 133), .ref (qa 134), .ref (qa 135), .ref (qa 136), .ref (qa 137), .ref (qa 138), .ref (qa 139), .int 0, .int 0, .int 0, .int 0, .int 0]))] := hD
  refine lv_if_eq (tgt := 18) hx hb dX12_dams_6 (by decide) (fun cx5 => ?_) (fun h9 => absurd (by decide) h9)
  refine lv_iconst (v := (-1)) hx hb dX12_dams_18 (by decide) ?_
  exact hret _ _ _ _ _ _ (-1) () (by decide) (by decide) dX12_dams_19 rfl rfl (hP.sub [] rfl) (hD.sub [] (by decide) rfl) hS
def pw_tell : List Cond := .code yX12_tell cX12_tell 4 (some .boolean) :: ([.code yX12_isRiver cX12_isRiver 2 (some .boolean), .fieldLink RX12 19 "RiverVows" "country" "LRiverVows$Land;", .fieldLink RX12 151 "RiverVows$Land" "rivers" "I", .methodLink RX12 154 yX12_isRiver, .instanceMethod yX12_isRiver, .selects RX12 yX12_isRiver yX12_isRiver, .initialized RX12] ++ wsX120 ++ wsX30)
set_option maxRecDepth 20000 in
theorem pg_tell_0 : GoodIn pw_tell (wsV RX12 154 RX12 yX12_isRiver pw_isRiver) := goodIn_sub (by decide +kernel) (by decide +kernel)
set_option maxHeartbeats 4000000 in
set_option maxRecDepth 100000 in
theorem c_tell (l : Launch) (D : va_G) (k : Nat → ClassId) (sz : Nat) (qa : Nat → Nat) (p0 : Int32) (p1 : Int32) (p2 : Int32)  : pMi l yX12_tell pw_tell ({ frames := 1, cells := 0, slots := 0, locals := 21 }) D k [.ref (qa 0), .int p0, .int p1, .int p2] [((qa 0), .inr (9, [.ref (qa 1), .ref (qa 6), .ref (qa 9), .ref (qa 17), .ref (qa 18), .ref (qa 19), .ref (qa 20), .ref (qa 23), .ref (qa 25), .ref (qa 28), .ref (qa 29), .ref (qa 30), .ref (qa 31), .int 0, .int 0, .int 0])), ((qa 30), .inr (2, [.ref (qa 133), .ref (qa 134), .ref (qa 135), .ref (qa 136), .ref (qa 137), .ref (qa 138), .ref (qa 139), .int 0, .int 0, .int 0, .int 0, .int 0]))] sz (S := Unit) (fun r u => r = 0) (fun u => []) 0 0 := by
  refine p_ofi (cc := cX12_tell) (maxL := 4) (rt := .boolean) (by decide) rfl (Nat.le_of_ble_eq_true rfl) ?_
  intro p e s m below meth c hx hb hml hown hts hK hN A hA hP hD hS Q hret ls hl
  have hl : lv_has ls 4 [(0, .ref (qa 0)), (1, .int p0), (2, .int p1), (3, .int p2)] := hl
  refine lv_aload_n hx hb dX12_tell_0 rfl (lv_at hl 0 rfl) ?_
  refine lv_iload_n hx hb dX12_tell_1 rfl (lv_at hl 1 rfl) ?_
  refine p_ji (wr := []) (va_runV (As := [.int p0]) (rest := []) ⟨hx, hb, hml, hown, hts⟩ (c_isRiver l D k _ qa p0) (cwV 1 hts pg_tell_0 rfl rfl rfl (by decide +kernel) ⟨Nat.le_of_ble_eq_true rfl, Nat.le_of_ble_eq_true rfl⟩) (pV hK hN hP hD [0, 1] rfl (by decide) rfl 0 rfl rfl) rfl rfl hl.1 rfl (lv_room (Nat.le_of_ble_eq_true rfl)) dX12_tell_2 ⟨by decide, by decide⟩) hP hD hS hA [0, 1] [] rfl rfl (by decide) (by decide) (fun rx3 ux1 H locs wx2 hP hD hS => ?_)
  have hx4 : rx3 = 0 := wx2
  subst hx4
  have hP : va_P D vwCl [((qa 0), .inr (9, [.ref (qa 1), .ref (qa 6), .ref (qa 9), .ref (qa 17), .ref (qa 18), .ref (qa 19), .ref (qa 20), .ref (qa 23), .ref (qa 25), .ref (qa 28), .ref (qa 29), .ref (qa 30), .ref (qa 31), .int 0, .int 0, .int 0])), ((qa 30), .inr (2, [.ref (qa 133), .ref (qa 134), .ref (qa 135), .ref (qa 136), .ref (qa 137), .ref (qa 138), .ref (qa 139), .int 0, .int 0, .int 0, .int 0, .int 0]))] H := hP
  have hD : va_D A [((qa 0), .inr (9, [.ref (qa 1), .ref (qa 6), .ref (qa 9), .ref (qa 17), .ref (qa 18), .ref (qa 19), .ref (qa 20), .ref (qa 23), .ref (qa 25), .ref (qa 28), .ref (qa 29), .ref (qa 30), .ref (qa 31), .int 0, .int 0, .int 0])), ((qa 30), .inr (2, [.ref (qa 133), .ref (qa 134), .ref (qa 135), .ref (qa 136), .ref (qa 137), .ref (qa 138), .ref (qa 139), .int 0, .int 0, .int 0, .int 0, .int 0]))] := hD
  refine lv_if_eq (tgt := 38) hx hb dX12_tell_5 (by decide) (fun cx5 => ?_) (fun h9 => absurd (by decide) h9)
  refine lv_iconst (v := 0) hx hb dX12_tell_38 (by decide) ?_
  exact hret _ _ _ _ _ _ 0 () (by decide) (by decide) dX12_tell_39 rfl rfl (hP.sub [] rfl) (hD.sub [] (by decide) rfl) hS
def pw_share : List Cond := .code yX12_share cX12_share 6 (some .int) :: ([.code yX12_isRiver cX12_isRiver 2 (some .boolean), .fieldLink RX12 19 "RiverVows" "country" "LRiverVows$Land;", .fieldLink RX12 151 "RiverVows$Land" "rivers" "I", .methodLink RX12 154 yX12_isRiver, .instanceMethod yX12_isRiver, .selects RX12 yX12_isRiver yX12_isRiver, .initialized RX12] ++ wsX120 ++ wsX30)
set_option maxRecDepth 20000 in
theorem pg_share_0 : GoodIn pw_share (wsV RX12 154 RX12 yX12_isRiver pw_isRiver) := goodIn_sub (by decide +kernel) (by decide +kernel)
set_option maxHeartbeats 4000000 in
set_option maxRecDepth 100000 in
theorem c_share (l : Launch) (D : va_G) (k : Nat → ClassId) (sz : Nat) (qa : Nat → Nat) (p0 : Int32) (p1 : Int32) (p2 : Int32)  : pMi l yX12_share pw_share ({ frames := 1, cells := 0, slots := 0, locals := 21 }) D k [.ref (qa 0), .int p0, .int p1, .int p2] [((qa 0), .inr (9, [.ref (qa 1), .ref (qa 6), .ref (qa 9), .ref (qa 17), .ref (qa 18), .ref (qa 19), .ref (qa 20), .ref (qa 23), .ref (qa 25), .ref (qa 28), .ref (qa 29), .ref (qa 30), .ref (qa 31), .int 0, .int 0, .int 0])), ((qa 30), .inr (2, [.ref (qa 133), .ref (qa 134), .ref (qa 135), .ref (qa 136), .ref (qa 137), .ref (qa 138), .ref (qa 139), .int 0, .int 0, .int 0, .int 0, .int 0]))] sz (S := Unit) (fun r u => r = (-1)) (fun u => []) 0 0 := by
  refine p_ofi (cc := cX12_share) (maxL := 6) (rt := .int) (by decide) rfl (Nat.le_of_ble_eq_true rfl) ?_
  intro p e s m below meth c hx hb hml hown hts hK hN A hA hP hD hS Q hret ls hl
  have hl : lv_has ls 6 [(0, .ref (qa 0)), (1, .int p0), (2, .int p1), (3, .int p2)] := hl
  refine lv_aload_n hx hb dX12_share_0 rfl (lv_at hl 0 rfl) ?_
  refine lv_iload_n hx hb dX12_share_1 rfl (lv_at hl 1 rfl) ?_
  refine p_ji (wr := []) (va_runV (As := [.int p0]) (rest := []) ⟨hx, hb, hml, hown, hts⟩ (c_isRiver l D k _ qa p0) (cwV 1 hts pg_share_0 rfl rfl rfl (by decide +kernel) ⟨Nat.le_of_ble_eq_true rfl, Nat.le_of_ble_eq_true rfl⟩) (pV hK hN hP hD [0, 1] rfl (by decide) rfl 0 rfl rfl) rfl rfl hl.1 rfl (lv_room (Nat.le_of_ble_eq_true rfl)) dX12_share_2 ⟨by decide, by decide⟩) hP hD hS hA [0, 1] [] rfl rfl (by decide) (by decide) (fun rx3 ux1 H locs wx2 hP hD hS => ?_)
  have hx4 : rx3 = 0 := wx2
  subst hx4
  have hP : va_P D vwCl [((qa 0), .inr (9, [.ref (qa 1), .ref (qa 6), .ref (qa 9), .ref (qa 17), .ref (qa 18), .ref (qa 19), .ref (qa 20), .ref (qa 23), .ref (qa 25), .ref (qa 28), .ref (qa 29), .ref (qa 30), .ref (qa 31), .int 0, .int 0, .int 0])), ((qa 30), .inr (2, [.ref (qa 133), .ref (qa 134), .ref (qa 135), .ref (qa 136), .ref (qa 137), .ref (qa 138), .ref (qa 139), .int 0, .int 0, .int 0, .int 0, .int 0]))] H := hP
  have hD : va_D A [((qa 0), .inr (9, [.ref (qa 1), .ref (qa 6), .ref (qa 9), .ref (qa 17), .ref (qa 18), .ref (qa 19), .ref (qa 20), .ref (qa 23), .ref (qa 25), .ref (qa 28), .ref (qa 29), .ref (qa 30), .ref (qa 31), .int 0, .int 0, .int 0])), ((qa 30), .inr (2, [.ref (qa 133), .ref (qa 134), .ref (qa 135), .ref (qa 136), .ref (qa 137), .ref (qa 138), .ref (qa 139), .int 0, .int 0, .int 0, .int 0, .int 0]))] := hD
  refine lv_if_eq (tgt := 30) hx hb dX12_share_5 (by decide) (fun cx5 => ?_) (fun h9 => absurd (by decide) h9)
  refine lv_iconst (v := (-1)) hx hb dX12_share_30 (by decide) ?_
  exact hret _ _ _ _ _ _ (-1) () (by decide) (by decide) dX12_share_31 rfl rfl (hP.sub [] rfl) (hD.sub [] (by decide) rfl) hS
def pw_storms : List Cond := .code yX12_storms cX12_storms 3 (some .int) :: ([.code yX12_hasTown cX12_hasTown 2 (some .boolean), .code yX12_isRiver cX12_isRiver 2 (some .boolean), .fieldLink RX12 19 "RiverVows" "country" "LRiverVows$Land;", .fieldLink RX12 151 "RiverVows$Land" "rivers" "I", .methodLink RX12 154 yX12_isRiver, .instanceMethod yX12_isRiver, .selects RX12 yX12_isRiver yX12_isRiver, .initialized RX12, .methodLink RX12 348 yX12_hasTown, .instanceMethod yX12_hasTown, .selects RX12 yX12_hasTown yX12_hasTown] ++ wsX120 ++ wsX30)
set_option maxRecDepth 20000 in
theorem pg_storms_0 : GoodIn pw_storms (wsV RX12 348 RX12 yX12_hasTown pw_hasTown) := goodIn_sub (by decide +kernel) (by decide +kernel)
set_option maxHeartbeats 4000000 in
set_option maxRecDepth 100000 in
theorem c_storms (l : Launch) (D : va_G) (k : Nat → ClassId) (sz : Nat) (qa : Nat → Nat) (p0 : Int32) (p1 : Int32)  : pMi l yX12_storms pw_storms ({ frames := 2, cells := 0, slots := 0, locals := 42 }) D k [.ref (qa 0), .int p0, .int p1] [((qa 0), .inr (9, [.ref (qa 1), .ref (qa 6), .ref (qa 9), .ref (qa 17), .ref (qa 18), .ref (qa 19), .ref (qa 20), .ref (qa 23), .ref (qa 25), .ref (qa 28), .ref (qa 29), .ref (qa 30), .ref (qa 31), .int 0, .int 0, .int 0])), ((qa 30), .inr (2, [.ref (qa 133), .ref (qa 134), .ref (qa 135), .ref (qa 136), .ref (qa 137), .ref (qa 138), .ref (qa 139), .int 0, .int 0, .int 0, .int 0, .int 0]))] sz (S := Unit) (fun r u => r = (-1)) (fun u => []) 0 0 := by
  refine p_ofi (cc := cX12_storms) (maxL := 3) (rt := .int) (by decide) rfl (Nat.le_of_ble_eq_true rfl) ?_
  intro p e s m below meth c hx hb hml hown hts hK hN A hA hP hD hS Q hret ls hl
  have hl : lv_has ls 3 [(0, .ref (qa 0)), (1, .int p0), (2, .int p1)] := hl
  refine lv_aload_n hx hb dX12_storms_0 rfl (lv_at hl 0 rfl) ?_
  refine lv_iload_n hx hb dX12_storms_1 rfl (lv_at hl 1 rfl) ?_
  refine p_ji (wr := []) (va_runV (As := [.int p0]) (rest := []) ⟨hx, hb, hml, hown, hts⟩ (c_hasTown l D k _ qa p0) (cwV 1 hts pg_storms_0 rfl rfl rfl (by decide +kernel) ⟨Nat.le_of_ble_eq_true rfl, Nat.le_of_ble_eq_true rfl⟩) (pV hK hN hP hD [0, 1] rfl (by decide) rfl 0 rfl rfl) rfl rfl hl.1 rfl (lv_room (Nat.le_of_ble_eq_true rfl)) dX12_storms_2 ⟨by decide, by decide⟩) hP hD hS hA [0, 1] [] rfl rfl (by decide) (by decide) (fun rx3 ux1 H locs wx2 hP hD hS => ?_)
  have hx4 : rx3 = 0 := wx2
  subst hx4
  have hP : va_P D vwCl [((qa 0), .inr (9, [.ref (qa 1), .ref (qa 6), .ref (qa 9), .ref (qa 17), .ref (qa 18), .ref (qa 19), .ref (qa 20), .ref (qa 23), .ref (qa 25), .ref (qa 28), .ref (qa 29), .ref (qa 30), .ref (qa 31), .int 0, .int 0, .int 0])), ((qa 30), .inr (2, [.ref (qa 133), .ref (qa 134), .ref (qa 135), .ref (qa 136), .ref (qa 137), .ref (qa 138), .ref (qa 139), .int 0, .int 0, .int 0, .int 0, .int 0]))] H := hP
  have hD : va_D A [((qa 0), .inr (9, [.ref (qa 1), .ref (qa 6), .ref (qa 9), .ref (qa 17), .ref (qa 18), .ref (qa 19), .ref (qa 20), .ref (qa 23), .ref (qa 25), .ref (qa 28), .ref (qa 29), .ref (qa 30), .ref (qa 31), .int 0, .int 0, .int 0])), ((qa 30), .inr (2, [.ref (qa 133), .ref (qa 134), .ref (qa 135), .ref (qa 136), .ref (qa 137), .ref (qa 138), .ref (qa 139), .int 0, .int 0, .int 0, .int 0, .int 0]))] := hD
  refine lv_if_eq (tgt := 15) hx hb dX12_storms_5 (by decide) (fun cx5 => ?_) (fun h9 => absurd (by decide) h9)
  refine lv_iconst (v := (-1)) hx hb dX12_storms_15 (by decide) ?_
  exact hret _ _ _ _ _ _ (-1) () (by decide) (by decide) dX12_storms_16 rfl rfl (hP.sub [] rfl) (hD.sub [] (by decide) rfl) hS
def pw_walls : List Cond := .code yX12_walls cX12_walls 8 (some .int) :: ([.code yX12_hasTown cX12_hasTown 2 (some .boolean), .code yX12_isRiver cX12_isRiver 2 (some .boolean), .fieldLink RX12 19 "RiverVows" "country" "LRiverVows$Land;", .fieldLink RX12 151 "RiverVows$Land" "rivers" "I", .methodLink RX12 154 yX12_isRiver, .instanceMethod yX12_isRiver, .selects RX12 yX12_isRiver yX12_isRiver, .initialized RX12, .methodLink RX12 348 yX12_hasTown, .instanceMethod yX12_hasTown, .selects RX12 yX12_hasTown yX12_hasTown] ++ wsX120 ++ wsX30)
set_option maxRecDepth 20000 in
theorem pg_walls_0 : GoodIn pw_walls (wsV RX12 348 RX12 yX12_hasTown pw_hasTown) := goodIn_sub (by decide +kernel) (by decide +kernel)
set_option maxHeartbeats 4000000 in
set_option maxRecDepth 100000 in
theorem c_walls (l : Launch) (D : va_G) (k : Nat → ClassId) (sz : Nat) (qa : Nat → Nat) (p0 : Int32) (p1 : Int32) (p2 : Int32)  : pMi l yX12_walls pw_walls ({ frames := 2, cells := 0, slots := 0, locals := 42 }) D k [.ref (qa 0), .int p0, .int p1, .int p2] [((qa 0), .inr (9, [.ref (qa 1), .ref (qa 6), .ref (qa 9), .ref (qa 17), .ref (qa 18), .ref (qa 19), .ref (qa 20), .ref (qa 23), .ref (qa 25), .ref (qa 28), .ref (qa 29), .ref (qa 30), .ref (qa 31), .int 0, .int 0, .int 0])), ((qa 30), .inr (2, [.ref (qa 133), .ref (qa 134), .ref (qa 135), .ref (qa 136), .ref (qa 137), .ref (qa 138), .ref (qa 139), .int 0, .int 0, .int 0, .int 0, .int 0]))] sz (S := Unit) (fun r u => r = (-1)) (fun u => []) 0 0 := by
  refine p_ofi (cc := cX12_walls) (maxL := 8) (rt := .int) (by decide) rfl (Nat.le_of_ble_eq_true rfl) ?_
  intro p e s m below meth c hx hb hml hown hts hK hN A hA hP hD hS Q hret ls hl
  have hl : lv_has ls 8 [(0, .ref (qa 0)), (1, .int p0), (2, .int p1), (3, .int p2)] := hl
  refine lv_aload_n hx hb dX12_walls_0 rfl (lv_at hl 0 rfl) ?_
  refine lv_iload_n hx hb dX12_walls_1 rfl (lv_at hl 1 rfl) ?_
  refine p_ji (wr := []) (va_runV (As := [.int p0]) (rest := []) ⟨hx, hb, hml, hown, hts⟩ (c_hasTown l D k _ qa p0) (cwV 1 hts pg_walls_0 rfl rfl rfl (by decide +kernel) ⟨Nat.le_of_ble_eq_true rfl, Nat.le_of_ble_eq_true rfl⟩) (pV hK hN hP hD [0, 1] rfl (by decide) rfl 0 rfl rfl) rfl rfl hl.1 rfl (lv_room (Nat.le_of_ble_eq_true rfl)) dX12_walls_2 ⟨by decide, by decide⟩) hP hD hS hA [0, 1] [] rfl rfl (by decide) (by decide) (fun rx3 ux1 H locs wx2 hP hD hS => ?_)
  have hx4 : rx3 = 0 := wx2
  subst hx4
  have hP : va_P D vwCl [((qa 0), .inr (9, [.ref (qa 1), .ref (qa 6), .ref (qa 9), .ref (qa 17), .ref (qa 18), .ref (qa 19), .ref (qa 20), .ref (qa 23), .ref (qa 25), .ref (qa 28), .ref (qa 29), .ref (qa 30), .ref (qa 31), .int 0, .int 0, .int 0])), ((qa 30), .inr (2, [.ref (qa 133), .ref (qa 134), .ref (qa 135), .ref (qa 136), .ref (qa 137), .ref (qa 138), .ref (qa 139), .int 0, .int 0, .int 0, .int 0, .int 0]))] H := hP
  have hD : va_D A [((qa 0), .inr (9, [.ref (qa 1), .ref (qa 6), .ref (qa 9), .ref (qa 17), .ref (qa 18), .ref (qa 19), .ref (qa 20), .ref (qa 23), .ref (qa 25), .ref (qa 28), .ref (qa 29), .ref (qa 30), .ref (qa 31), .int 0, .int 0, .int 0])), ((qa 30), .inr (2, [.ref (qa 133), .ref (qa 134), .ref (qa 135), .ref (qa 136), .ref (qa 137), .ref (qa 138), .ref (qa 139), .int 0, .int 0, .int 0, .int 0, .int 0]))] := hD
  refine lv_if_eq (tgt := 26) hx hb dX12_walls_5 (by decide) (fun cx5 => ?_) (fun h9 => absurd (by decide) h9)
  refine lv_iconst (v := (-1)) hx hb dX12_walls_26 (by decide) ?_
  exact hret _ _ _ _ _ _ (-1) () (by decide) (by decide) dX12_walls_27 rfl rfl (hP.sub [] rfl) (hD.sub [] (by decide) rfl) hS
def pw_centuries : List Cond := .code yX12_centuries cX12_centuries 11 (some .int) :: ([.fieldLink RX12 19 "RiverVows" "country" "LRiverVows$Land;", .fieldLink RX12 151 "RiverVows$Land" "rivers" "I"] ++ wsX120 ++ wsX30)
set_option maxHeartbeats 4000000 in
set_option maxRecDepth 100000 in
theorem c_centuries (l : Launch) (D : va_G) (k : Nat → ClassId) (sz : Nat) (qa : Nat → Nat) (p0 : Int32) (p1 : Int32) (p2 : Int32)  : pMi l yX12_centuries pw_centuries ({ frames := 0, cells := 0, slots := 0, locals := 0 }) D k [.ref (qa 0), .int p0, .int p1, .int p2] [((qa 0), .inr (9, [.ref (qa 1), .ref (qa 6), .ref (qa 9), .ref (qa 17), .ref (qa 18), .ref (qa 19), .ref (qa 20), .ref (qa 23), .ref (qa 25), .ref (qa 28), .ref (qa 29), .ref (qa 30), .ref (qa 31), .int 0, .int 0, .int 0])), ((qa 30), .inr (2, [.ref (qa 133), .ref (qa 134), .ref (qa 135), .ref (qa 136), .ref (qa 137), .ref (qa 138), .ref (qa 139), .int 0, .int 0, .int 0, .int 0, .int 0]))] sz (S := Unit) (fun r u => r = (-1)) (fun u => []) 0 0 := by
  refine p_ofi (cc := cX12_centuries) (maxL := 11) (rt := .int) (by decide) rfl (Nat.le_of_ble_eq_true rfl) ?_
  intro p e s m below meth c hx hb hml hown hts hK hN A hA hP hD hS Q hret ls hl
  have hl : lv_has ls 11 [(0, .ref (qa 0)), (1, .int p0), (2, .int p1), (3, .int p2)] := hl
  have lf19 := hts (.fieldLink RX12 19 "RiverVows" "country" "LRiverVows$Land;") (by decide +kernel)
  have inX12 : ∀ w ∈ wsX120, w ∈ pw_centuries := by decide +kernel
  have lf151 := hts (.fieldLink RX12 151 "RiverVows$Land" "rivers" "I") (by decide +kernel)
  have inX3 : ∀ w ∈ wsX30, w ∈ pw_centuries := by decide +kernel
  refine lv_iload_n hx hb dX12_centuries_0 rfl (lv_at hl 1 rfl) ?_
  refine lv_if_lt (tgt := 22) hx hb dX12_centuries_1 (by decide) (fun cx1 => ?_) (fun cx1 => ?_)
  · skip
    refine lv_iconst (v := (-1)) hx hb dX12_centuries_22 (by decide) ?_
    exact hret _ _ _ _ _ _ (-1) () (by decide) (by decide) dX12_centuries_23 rfl rfl (hP.sub [] rfl) (hD.sub [] (by decide) rfl) hS
  · skip
    refine lv_iload_n hx hb dX12_centuries_4 rfl (lv_at hl 1 rfl) ?_
    refine lv_sipush (v := 9999) hx hb dX12_centuries_5 (by decide) ?_
    refine lv_icmp_gt (tgt := 22) hx hb dX12_centuries_8 (by decide) (fun cx2 => ?_) (fun cx2 => ?_)
    · skip
      refine lv_iconst (v := (-1)) hx hb dX12_centuries_22 (by decide) ?_
      exact hret _ _ _ _ _ _ (-1) () (by decide) (by decide) dX12_centuries_23 rfl rfl (hP.sub [] rfl) (hD.sub [] (by decide) rfl) hS
    · skip
      refine lv_iload_n hx hb dX12_centuries_11 rfl (lv_at hl 2 rfl) ?_
      refine lv_iconst (v := 1) hx hb dX12_centuries_12 (by decide) ?_
      refine lv_icmp_lt (tgt := 22) hx hb dX12_centuries_13 (by decide) (fun cx3 => ?_) (fun cx3 => ?_)
      · skip
        refine lv_iconst (v := (-1)) hx hb dX12_centuries_22 (by decide) ?_
        exact hret _ _ _ _ _ _ (-1) () (by decide) (by decide) dX12_centuries_23 rfl rfl (hP.sub [] rfl) (hD.sub [] (by decide) rfl) hS
      · skip
        refine lv_iload_n hx hb dX12_centuries_16 rfl (lv_at hl 2 rfl) ?_
        refine lv_bipush (v := 100) hx hb dX12_centuries_17 (by decide) ?_
        refine lv_icmp_le (tgt := 24) hx hb dX12_centuries_19 (by decide) (fun cx4 => ?_) (fun cx4 => ?_)
        · skip
          refine lv_iload_n hx hb dX12_centuries_24 rfl (lv_at hl 3 rfl) ?_
          refine lv_if_lt (tgt := 43) hx hb dX12_centuries_25 (by decide) (fun cx5 => ?_) (fun cx5 => ?_)
          · skip
            refine lv_iconst (v := (-1)) hx hb dX12_centuries_43 (by decide) ?_
            exact hret _ _ _ _ _ _ (-1) () (by decide) (by decide) dX12_centuries_44 rfl rfl (hP.sub [] rfl) (hD.sub [] (by decide) rfl) hS
          · skip
            refine lv_iload_n hx hb dX12_centuries_28 rfl (lv_at hl 3 rfl) ?_
            refine lv_iconst (v := 2) hx hb dX12_centuries_29 (by decide) ?_
            refine lv_icmp_gt (tgt := 43) hx hb dX12_centuries_30 (by decide) (fun cx6 => ?_) (fun cx6 => ?_)
            · skip
              refine lv_iconst (v := (-1)) hx hb dX12_centuries_43 (by decide) ?_
              exact hret _ _ _ _ _ _ (-1) () (by decide) (by decide) dX12_centuries_44 rfl rfl (hP.sub [] rfl) (hD.sub [] (by decide) rfl) hS
            · skip
              refine lv_aload_n hx hb dX12_centuries_33 rfl (lv_at hl 0 rfl) ?_
              refine va_get (ci := 9) (v := .ref (qa 30)) (C := RX12) (T := TX12) (N := 16) hx hb hts inX12 hown hK hP 0 rfl rfl 11 (by decide) lf19 (fun _ h9 => h9) rfl dX12_centuries_34 ?_
              refine va_get (ci := 2) (v := .int 0) (C := RX3) (T := TX3) (N := 12) hx hb hts inX3 hown hK hP 1 rfl rfl 7 (by decide) lf151 (fun _ h9 => h9) rfl dX12_centuries_37 ?_
              refine lv_if_ne (tgt := 45) hx hb dX12_centuries_40 (by decide) (fun h9 => absurd (by decide) h9) (fun cx7 => ?_)
              refine lv_iconst (v := (-1)) hx hb dX12_centuries_43 (by decide) ?_
              exact hret _ _ _ _ _ _ (-1) () (by decide) (by decide) dX12_centuries_44 rfl rfl (hP.sub [] rfl) (hD.sub [] (by decide) rfl) hS
        · skip
          refine lv_iconst (v := (-1)) hx hb dX12_centuries_22 (by decide) ?_
          exact hret _ _ _ _ _ _ (-1) () (by decide) (by decide) dX12_centuries_23 rfl rfl (hP.sub [] rfl) (hD.sub [] (by decide) rfl) hS
def pw_undo : List Cond := .code yX12_undo cX12_undo 1 (some .boolean) :: ([.fieldLink RX12 93 "RiverVows" "undoCount" "I"] ++ wsX120)
set_option maxHeartbeats 4000000 in
set_option maxRecDepth 100000 in
theorem c_undo (l : Launch) (D : va_G) (k : Nat → ClassId) (sz : Nat) (qa : Nat → Nat)  : pMi l yX12_undo pw_undo ({ frames := 0, cells := 0, slots := 0, locals := 0 }) D k [.ref (qa 0)] [((qa 0), .inr (9, [.ref (qa 1), .ref (qa 6), .ref (qa 9), .ref (qa 17), .ref (qa 18), .ref (qa 19), .ref (qa 20), .ref (qa 23), .ref (qa 25), .ref (qa 28), .ref (qa 29), .ref (qa 30), .ref (qa 31), .int 0, .int 0, .int 0]))] sz (S := Unit) (fun r u => r = 0) (fun u => []) 0 0 := by
  refine p_ofi (cc := cX12_undo) (maxL := 1) (rt := .boolean) (by decide) rfl (Nat.le_of_ble_eq_true rfl) ?_
  intro p e s m below meth c hx hb hml hown hts hK hN A hA hP hD hS Q hret ls hl
  have hl : lv_has ls 1 [(0, .ref (qa 0))] := hl
  have lf93 := hts (.fieldLink RX12 93 "RiverVows" "undoCount" "I") (by decide +kernel)
  have inX12 : ∀ w ∈ wsX120, w ∈ pw_undo := by decide +kernel
  refine lv_aload_n hx hb dX12_undo_0 rfl (lv_at hl 0 rfl) ?_
  refine va_get (ci := 9) (v := .int 0) (C := RX12) (T := TX12) (N := 16) hx hb hts inX12 hown hK hP 0 rfl rfl 15 (by decide) lf93 (fun _ h9 => h9) rfl dX12_undo_1 ?_
  refine lv_if_ne (tgt := 9) hx hb dX12_undo_4 (by decide) (fun h9 => absurd (by decide) h9) (fun cx1 => ?_)
  refine lv_iconst (v := 0) hx hb dX12_undo_7 (by decide) ?_
  exact hret _ _ _ _ _ _ 0 () (by decide) (by decide) dX12_undo_8 rfl rfl (hP.sub [] rfl) (hD.sub [] (by decide) rfl) hS
def pw_ends : List Cond := .code yX12_ends cX12_ends 4 (some .int) :: ([.fieldLink RX12 19 "RiverVows" "country" "LRiverVows$Land;", .fieldLink RX12 151 "RiverVows$Land" "rivers" "I", .code yX3_all cX3_all 1 (some .int), .fieldLink RX3 45 "RiverVows$Land" "rivers" "I", .methodLink RX12 251 yX3_all, .instanceMethod yX3_all, .selects RX3 yX3_all yX3_all, .initialized RX3] ++ wsX120 ++ wsX30)
set_option maxRecDepth 20000 in
theorem pg_ends_0 : GoodIn pw_ends (wsV RX12 251 RX3 yX3_all pw_Land_all) := goodIn_sub (by decide +kernel) (by decide +kernel)
set_option maxHeartbeats 4000000 in
set_option maxRecDepth 100000 in
theorem c_ends (l : Launch) (D : va_G) (k : Nat → ClassId) (sz : Nat) (qa : Nat → Nat)  : pMi l yX12_ends pw_ends ({ frames := 1, cells := 0, slots := 0, locals := 20 }) D k [.ref (qa 0)] [((qa 0), .inr (9, [.ref (qa 1), .ref (qa 6), .ref (qa 9), .ref (qa 17), .ref (qa 18), .ref (qa 19), .ref (qa 20), .ref (qa 23), .ref (qa 25), .ref (qa 28), .ref (qa 29), .ref (qa 30), .ref (qa 31), .int 0, .int 0, .int 0])), ((qa 30), .inr (2, [.ref (qa 133), .ref (qa 134), .ref (qa 135), .ref (qa 136), .ref (qa 137), .ref (qa 138), .ref (qa 139), .int 0, .int 0, .int 0, .int 0, .int 0]))] sz (S := Unit) (fun r u => r = 0) (fun u => []) 0 0 := by
  refine p_ofi (cc := cX12_ends) (maxL := 4) (rt := .int) (by decide) rfl (Nat.le_of_ble_eq_true rfl) ?_
  intro p e s m below meth c hx hb hml hown hts hK hN A hA hP hD hS Q hret ls hl
  have hl : lv_has ls 4 [(0, .ref (qa 0))] := hl
  have lf19 := hts (.fieldLink RX12 19 "RiverVows" "country" "LRiverVows$Land;") (by decide +kernel)
  have inX12 : ∀ w ∈ wsX120, w ∈ pw_ends := by decide +kernel
  have lf151 := hts (.fieldLink RX12 151 "RiverVows$Land" "rivers" "I") (by decide +kernel)
  have inX3 : ∀ w ∈ wsX30, w ∈ pw_ends := by decide +kernel
  refine lv_iconst (v := 0) hx hb dX12_ends_0 (by decide) ?_
  refine lv_istore_n (lv' := [(1, .int 0), (0, .ref (qa 0))]) hx hb dX12_ends_1 rfl hl (by decide) rfl (fun ls hl => ?_)
  refine lv_iconst (v := 0) hx hb dX12_ends_2 (by decide) ?_
  refine lv_istore_n (lv' := [(2, .int 0), (1, .int 0), (0, .ref (qa 0))]) hx hb dX12_ends_3 rfl hl (by decide) rfl (fun ls hl => ?_)
  refine lv_iload_n hx hb dX12_ends_4 rfl (lv_at hl 0 rfl) ?_
  refine lv_aload_n hx hb dX12_ends_5 rfl (lv_at hl 2 rfl) ?_
  refine va_get (ci := 9) (v := .ref (qa 30)) (C := RX12) (T := TX12) (N := 16) hx hb hts inX12 hown hK hP 0 rfl rfl 11 (by decide) lf19 (fun _ h9 => h9) rfl dX12_ends_6 ?_
  refine va_get (ci := 2) (v := .int 0) (C := RX3) (T := TX3) (N := 12) hx hb hts inX3 hown hK hP 1 rfl rfl 7 (by decide) lf151 (fun _ h9 => h9) rfl dX12_ends_9 ?_
  refine lv_icmp_ge (tgt := 43) hx hb dX12_ends_12 (by decide) (fun cx1 => ?_) (fun h9 => absurd (by decide) h9)
  refine lv_aload_n hx hb dX12_ends_43 rfl (lv_at hl 2 rfl) ?_
  refine va_get (ci := 9) (v := .ref (qa 30)) (C := RX12) (T := TX12) (N := 16) hx hb hts inX12 hown hK hP 0 rfl rfl 11 (by decide) lf19 (fun _ h9 => h9) rfl dX12_ends_44 ?_
  refine p_ji (wr := [((qa 0), .inr (9, [.ref (qa 1), .ref (qa 6), .ref (qa 9), .ref (qa 17), .ref (qa 18), .ref (qa 19), .ref (qa 20), .ref (qa 23), .ref (qa 25), .ref (qa 28), .ref (qa 29), .ref (qa 30), .ref (qa 31), .int 0, .int 0, .int 0]))]) (va_runV (As := []) (rest := []) ⟨hx, hb, hml, hown, hts⟩ (c_Land_all l D k _ (qa 30) (qa 133) (qa 134) (qa 135) (qa 136) (qa 137) (qa 138) (qa 139)) (cwV 0 hts pg_ends_0 rfl rfl rfl (by decide +kernel) ⟨Nat.le_of_ble_eq_true rfl, Nat.le_of_ble_eq_true rfl⟩) (pV hK hN hP hD [1] rfl (by decide) rfl 1 rfl rfl) rfl rfl hl.1 rfl (lv_room (Nat.le_of_ble_eq_true rfl)) dX12_ends_47 ⟨by decide, by decide⟩) hP hD hS hA [1] [0] rfl rfl (by decide) (by decide) (fun rx4 ux2 H locs wx3 hP hD hS => ?_)
  have hx5 : rx4 = 0 := wx3
  subst hx5
  have hP : va_P D vwCl [((qa 0), .inr (9, [.ref (qa 1), .ref (qa 6), .ref (qa 9), .ref (qa 17), .ref (qa 18), .ref (qa 19), .ref (qa 20), .ref (qa 23), .ref (qa 25), .ref (qa 28), .ref (qa 29), .ref (qa 30), .ref (qa 31), .int 0, .int 0, .int 0])), ((qa 30), .inr (2, [.ref (qa 133), .ref (qa 134), .ref (qa 135), .ref (qa 136), .ref (qa 137), .ref (qa 138), .ref (qa 139), .int 0, .int 0, .int 0, .int 0, .int 0]))] H := hP
  have hD : va_D A [((qa 0), .inr (9, [.ref (qa 1), .ref (qa 6), .ref (qa 9), .ref (qa 17), .ref (qa 18), .ref (qa 19), .ref (qa 20), .ref (qa 23), .ref (qa 25), .ref (qa 28), .ref (qa 29), .ref (qa 30), .ref (qa 31), .int 0, .int 0, .int 0])), ((qa 30), .inr (2, [.ref (qa 133), .ref (qa 134), .ref (qa 135), .ref (qa 136), .ref (qa 137), .ref (qa 138), .ref (qa 139), .int 0, .int 0, .int 0, .int 0, .int 0]))] := hD
  refine lv_iload_n hx hb dX12_ends_50 rfl (lv_at hl 1 rfl) ?_
  refine lv_iconst (v := (-1)) hx hb dX12_ends_51 (by decide) ?_
  refine lv_ixor hx hb dX12_ends_52 ?_
  refine p_topI (v := (-1)) (by decide) ?_
  refine lv_iand hx hb dX12_ends_53 ?_
  refine p_topI (v := 0) (by decide) ?_
  exact hret _ _ _ _ _ _ 0 () (by decide) (by decide) dX12_ends_54 rfl rfl (hP.sub [] rfl) (hD.sub [] (by decide) rfl) hS
def pw_eddies : List Cond := .code yX12_eddies cX12_eddies 5 (some .int) :: ([.fieldLink RX12 19 "RiverVows" "country" "LRiverVows$Land;", .fieldLink RX12 151 "RiverVows$Land" "rivers" "I"] ++ wsX120 ++ wsX30)
set_option maxHeartbeats 4000000 in
set_option maxRecDepth 100000 in
theorem c_eddies (l : Launch) (D : va_G) (k : Nat → ClassId) (sz : Nat) (qa : Nat → Nat)  : pMi l yX12_eddies pw_eddies ({ frames := 0, cells := 0, slots := 0, locals := 0 }) D k [.ref (qa 0)] [((qa 0), .inr (9, [.ref (qa 1), .ref (qa 6), .ref (qa 9), .ref (qa 17), .ref (qa 18), .ref (qa 19), .ref (qa 20), .ref (qa 23), .ref (qa 25), .ref (qa 28), .ref (qa 29), .ref (qa 30), .ref (qa 31), .int 0, .int 0, .int 0])), ((qa 30), .inr (2, [.ref (qa 133), .ref (qa 134), .ref (qa 135), .ref (qa 136), .ref (qa 137), .ref (qa 138), .ref (qa 139), .int 0, .int 0, .int 0, .int 0, .int 0]))] sz (S := Unit) (fun r u => r = 0) (fun u => []) 0 0 := by
  refine p_ofi (cc := cX12_eddies) (maxL := 5) (rt := .int) (by decide) rfl (Nat.le_of_ble_eq_true rfl) ?_
  intro p e s m below meth c hx hb hml hown hts hK hN A hA hP hD hS Q hret ls hl
  have hl : lv_has ls 5 [(0, .ref (qa 0))] := hl
  have lf19 := hts (.fieldLink RX12 19 "RiverVows" "country" "LRiverVows$Land;") (by decide +kernel)
  have inX12 : ∀ w ∈ wsX120, w ∈ pw_eddies := by decide +kernel
  have lf151 := hts (.fieldLink RX12 151 "RiverVows$Land" "rivers" "I") (by decide +kernel)
  have inX3 : ∀ w ∈ wsX30, w ∈ pw_eddies := by decide +kernel
  refine lv_iconst (v := 0) hx hb dX12_eddies_0 (by decide) ?_
  refine lv_istore_n (lv' := [(1, .int 0), (0, .ref (qa 0))]) hx hb dX12_eddies_1 rfl hl (by decide) rfl (fun ls hl => ?_)
  refine lv_iconst (v := 0) hx hb dX12_eddies_2 (by decide) ?_
  refine lv_istore_n (lv' := [(2, .int 0), (1, .int 0), (0, .ref (qa 0))]) hx hb dX12_eddies_3 rfl hl (by decide) rfl (fun ls hl => ?_)
  refine lv_iload_n hx hb dX12_eddies_4 rfl (lv_at hl 0 rfl) ?_
  refine lv_aload_n hx hb dX12_eddies_5 rfl (lv_at hl 2 rfl) ?_
  refine va_get (ci := 9) (v := .ref (qa 30)) (C := RX12) (T := TX12) (N := 16) hx hb hts inX12 hown hK hP 0 rfl rfl 11 (by decide) lf19 (fun _ h9 => h9) rfl dX12_eddies_6 ?_
  refine va_get (ci := 2) (v := .int 0) (C := RX3) (T := TX3) (N := 12) hx hb hts inX3 hown hK hP 1 rfl rfl 7 (by decide) lf151 (fun _ h9 => h9) rfl dX12_eddies_9 ?_
  refine lv_icmp_ge (tgt := 118) hx hb dX12_eddies_12 (by decide) (fun cx1 => ?_) (fun h9 => absurd (by decide) h9)
  refine lv_iload_n hx hb dX12_eddies_118 rfl (lv_at hl 1 rfl) ?_
  exact hret _ _ _ _ _ _ 0 () (by decide) (by decide) dX12_eddies_119 rfl rfl (hP.sub [] rfl) (hD.sub [] (by decide) rfl) hS
def pw_cathedral : List Cond := .code yX12_cathedral cX12_cathedral 8 (some .int) :: ([.code yX12_isSeason cX12_isSeason 1 (some .boolean), .methodLink RX12 223 yX12_isSeason, .static yX12_isSeason, .initialized RX12, .code yX12_netNow cX12_netNow 1 (some (.object "RiverVows$Net")), .fieldLink RX12 58 "RiverVows" "net" "LRiverVows$Net;", .fieldLink RX12 19 "RiverVows" "country" "LRiverVows$Land;", .fieldLink RX12 38 "RiverVows" "now" "LRiverVows$Standing;", .fieldLink RX12 170 "RiverVows$Standing" "husband" "[I", .code yX5_lay cX5_lay 4 none, .code yX5_clear cX5_clear 3 none, .fieldLink RX5 18 "RiverVows$Net" "land" "LRiverVows$Land;", .fieldLink RX5 9 "RiverVows$Net" "husband" "[I", .fieldLink RX5 15 "RiverVows$Net" "whole" "[I", .methodLink RX5 22 yX5_clear, .instanceMethod yX5_clear, .selects RX5 yX5_clear yX5_clear, .initialized RX5, .fieldLink RX5 26 "RiverVows$Land" "rivers" "I", .methodLink RX12 173 yX5_lay, .instanceMethod yX5_lay, .selects RX5 yX5_lay yX5_lay, .methodLink RX12 177 yX12_netNow, .instanceMethod yX12_netNow, .selects RX12 yX12_netNow yX12_netNow, .fieldLink RX12 151 "RiverVows$Land" "rivers" "I"] ++ wsX120 ++ wsX90 ++ wsX50 ++ wsX30)
set_option maxRecDepth 20000 in
theorem pg_cathedral_0 : GoodIn pw_cathedral (wsS RX12 223 yX12_isSeason pw_isSeason) := goodIn_sub (by decide +kernel) (by decide +kernel)
set_option maxRecDepth 20000 in
theorem pg_cathedral_1 : GoodIn pw_cathedral (wsV RX12 177 RX12 yX12_netNow pw_netNow) := goodIn_sub (by decide +kernel) (by decide +kernel)
set_option maxHeartbeats 4000000 in
set_option maxRecDepth 100000 in
theorem c_cathedral (l : Launch) (D : va_G) (k : Nat → ClassId) (sz : Nat) (qa : Nat → Nat) (r : Int32)  : pMi l yX12_cathedral pw_cathedral ({ frames := 3, cells := 0, slots := 0, locals := 65 }) D k [.ref (qa 0), .int r] [((qa 0), .inr (9, [.ref (qa 1), .ref (qa 6), .ref (qa 9), .ref (qa 17), .ref (qa 18), .ref (qa 19), .ref (qa 20), .ref (qa 23), .ref (qa 25), .ref (qa 28), .ref (qa 29), .ref (qa 30), .ref (qa 31), .int 0, .int 0, .int 0])), ((qa 9), .inr (8, [.ref (qa 10), .ref (qa 11), .ref (qa 12), .ref (qa 13), .ref (qa 14), .ref (qa 15), .ref (qa 16), .int 0, .int (-1), .int 0, .int 0])), ((qa 30), .inr (2, [.ref (qa 133), .ref (qa 134), .ref (qa 135), .ref (qa 136), .ref (qa 137), .ref (qa 138), .ref (qa 139), .int 0, .int 0, .int 0, .int 0, .int 0])), ((qa 20), .inr (4, [.ref (qa 21), .ref (qa 22), .ref (qa 30)])), ((qa 21), .inl (k 1, 6, .inl (fun _ => 0))), ((qa 22), .inl (k 1, 6, .inl (fun _ => 0)))] sz (S := Unit) (fun r u => r = (-1)) (fun u => []) 0 0 := by
  refine p_ofi (cc := cX12_cathedral) (maxL := 8) (rt := .int) (by decide) rfl (Nat.le_of_ble_eq_true rfl) ?_
  intro p e s m below meth c hx hb hml hown hts hK hN A hA hP hD hS Q hret ls hl
  have hl : lv_has ls 8 [(0, .ref (qa 0)), (1, .int r)] := hl
  have lf19 := hts (.fieldLink RX12 19 "RiverVows" "country" "LRiverVows$Land;") (by decide +kernel)
  have inX12 : ∀ w ∈ wsX120, w ∈ pw_cathedral := by decide +kernel
  have lf151 := hts (.fieldLink RX12 151 "RiverVows$Land" "rivers" "I") (by decide +kernel)
  have inX3 : ∀ w ∈ wsX30, w ∈ pw_cathedral := by decide +kernel
  refine lv_iload_n hx hb dX12_cathedral_0 rfl (lv_at hl 1 rfl) ?_
  refine p_ji (wr := [((qa 0), .inr (9, [.ref (qa 1), .ref (qa 6), .ref (qa 9), .ref (qa 17), .ref (qa 18), .ref (qa 19), .ref (qa 20), .ref (qa 23), .ref (qa 25), .ref (qa 28), .ref (qa 29), .ref (qa 30), .ref (qa 31), .int 0, .int 0, .int 0])), ((qa 9), .inr (8, [.ref (qa 10), .ref (qa 11), .ref (qa 12), .ref (qa 13), .ref (qa 14), .ref (qa 15), .ref (qa 16), .int 0, .int (-1), .int 0, .int 0])), ((qa 30), .inr (2, [.ref (qa 133), .ref (qa 134), .ref (qa 135), .ref (qa 136), .ref (qa 137), .ref (qa 138), .ref (qa 139), .int 0, .int 0, .int 0, .int 0, .int 0])), ((qa 20), .inr (4, [.ref (qa 21), .ref (qa 22), .ref (qa 30)])), ((qa 21), .inl (k 1, 6, .inl (fun _ => 0))), ((qa 22), .inl (k 1, 6, .inl (fun _ => 0)))]) (va_runS (As := [.int r]) (rest := []) ⟨hx, hb, hml, hown, hts⟩ (c_isSeason l D k _ r) (cwS 1 hts pg_cathedral_0 rfl rfl rfl (by decide +kernel) ⟨Nat.le_of_ble_eq_true rfl, Nat.le_of_ble_eq_true rfl⟩) (pS hK hN hP hD [] rfl (by decide) rfl) rfl rfl hl.1 rfl (lv_room (Nat.le_of_ble_eq_true rfl)) dX12_cathedral_1 ⟨by decide, by decide⟩) hP hD hS hA [] [0, 1, 2, 3, 4, 5] rfl rfl (by decide) (by decide) (fun rx3 ux1 H locs wx2 hP hD hS => ?_)
  have hP : va_P D vwCl [((qa 0), .inr (9, [.ref (qa 1), .ref (qa 6), .ref (qa 9), .ref (qa 17), .ref (qa 18), .ref (qa 19), .ref (qa 20), .ref (qa 23), .ref (qa 25), .ref (qa 28), .ref (qa 29), .ref (qa 30), .ref (qa 31), .int 0, .int 0, .int 0])), ((qa 9), .inr (8, [.ref (qa 10), .ref (qa 11), .ref (qa 12), .ref (qa 13), .ref (qa 14), .ref (qa 15), .ref (qa 16), .int 0, .int (-1), .int 0, .int 0])), ((qa 30), .inr (2, [.ref (qa 133), .ref (qa 134), .ref (qa 135), .ref (qa 136), .ref (qa 137), .ref (qa 138), .ref (qa 139), .int 0, .int 0, .int 0, .int 0, .int 0])), ((qa 20), .inr (4, [.ref (qa 21), .ref (qa 22), .ref (qa 30)])), ((qa 21), .inl (k 1, 6, .inl (fun _ => 0))), ((qa 22), .inl (k 1, 6, .inl (fun _ => 0)))] H := hP
  have hD : va_D A [((qa 0), .inr (9, [.ref (qa 1), .ref (qa 6), .ref (qa 9), .ref (qa 17), .ref (qa 18), .ref (qa 19), .ref (qa 20), .ref (qa 23), .ref (qa 25), .ref (qa 28), .ref (qa 29), .ref (qa 30), .ref (qa 31), .int 0, .int 0, .int 0])), ((qa 9), .inr (8, [.ref (qa 10), .ref (qa 11), .ref (qa 12), .ref (qa 13), .ref (qa 14), .ref (qa 15), .ref (qa 16), .int 0, .int (-1), .int 0, .int 0])), ((qa 30), .inr (2, [.ref (qa 133), .ref (qa 134), .ref (qa 135), .ref (qa 136), .ref (qa 137), .ref (qa 138), .ref (qa 139), .int 0, .int 0, .int 0, .int 0, .int 0])), ((qa 20), .inr (4, [.ref (qa 21), .ref (qa 22), .ref (qa 30)])), ((qa 21), .inl (k 1, 6, .inl (fun _ => 0))), ((qa 22), .inl (k 1, 6, .inl (fun _ => 0)))] := hD
  refine lv_if_ne (tgt := 9) hx hb dX12_cathedral_4 (by decide) (fun cx4 => ?_) (fun cx4 => ?_)
  · skip
    refine lv_aload_n hx hb dX12_cathedral_9 rfl (lv_at hl 0 rfl) ?_
    refine p_jr (wr := []) (va_runV (As := []) (rest := []) ⟨hx, hb, hml, hown, hts⟩ (c_netNow l D k _ qa (fun _ => 0) (fun _ => 0)) (cwV 0 hts pg_cathedral_1 rfl rfl rfl (by decide +kernel) ⟨Nat.le_of_ble_eq_true rfl, Nat.le_of_ble_eq_true rfl⟩) (pV hK hN hP hD [0, 1, 2, 3, 4, 5] rfl (by decide) rfl 0 rfl rfl) rfl rfl hl.1 rfl (lv_room (Nat.le_of_ble_eq_true rfl)) dX12_cathedral_10 ⟨by decide, by decide⟩) hP hD hS hA [0, 1, 2, 3, 4, 5] [] rfl rfl (by decide) (by decide) (fun ux5 H locs wx6 hP hD hS => ?_)
    obtain ⟨f9_x8, g9_x9⟩ := ux5
    have hP : va_P D vwCl [((qa 0), .inr (9, [.ref (qa 1), .ref (qa 6), .ref (qa 9), .ref (qa 17), .ref (qa 18), .ref (qa 19), .ref (qa 20), .ref (qa 23), .ref (qa 25), .ref (qa 28), .ref (qa 29), .ref (qa 30), .ref (qa 31), .int 0, .int 0, .int 0])), ((qa 9), .inr (8, [.ref (qa 10), .ref (qa 11), .ref (qa 12), .ref (qa 13), .ref (qa 14), .ref (qa 15), .ref (qa 16), .int 0, .int (-1), .int 0, .int 0])), ((qa 30), .inr (2, [.ref (qa 133), .ref (qa 134), .ref (qa 135), .ref (qa 136), .ref (qa 137), .ref (qa 138), .ref (qa 139), .int 0, .int 0, .int 0, .int 0, .int 0])), ((qa 20), .inr (4, [.ref (qa 21), .ref (qa 22), .ref (qa 30)])), ((qa 21), .inl (k 1, 6, .inl f9_x8)), ((qa 22), .inl (k 1, 6, .inl g9_x9))] H := hP
    have hD : va_D A [((qa 0), .inr (9, [.ref (qa 1), .ref (qa 6), .ref (qa 9), .ref (qa 17), .ref (qa 18), .ref (qa 19), .ref (qa 20), .ref (qa 23), .ref (qa 25), .ref (qa 28), .ref (qa 29), .ref (qa 30), .ref (qa 31), .int 0, .int 0, .int 0])), ((qa 9), .inr (8, [.ref (qa 10), .ref (qa 11), .ref (qa 12), .ref (qa 13), .ref (qa 14), .ref (qa 15), .ref (qa 16), .int 0, .int (-1), .int 0, .int 0])), ((qa 30), .inr (2, [.ref (qa 133), .ref (qa 134), .ref (qa 135), .ref (qa 136), .ref (qa 137), .ref (qa 138), .ref (qa 139), .int 0, .int 0, .int 0, .int 0, .int 0])), ((qa 20), .inr (4, [.ref (qa 21), .ref (qa 22), .ref (qa 30)])), ((qa 21), .inl (k 1, 6, .inl f9_x8)), ((qa 22), .inl (k 1, 6, .inl g9_x9))] := hD
    refine lv_astore_n (lv' := [(2, .ref (qa 20)), (0, .ref (qa 0)), (1, .int r)]) hx hb dX12_cathedral_13 rfl hl (by decide) rfl (fun ls hl => ?_)
    refine lv_iconst (v := (-1)) hx hb dX12_cathedral_14 (by decide) ?_
    refine lv_istore_n (lv' := [(3, .int (-1)), (2, .ref (qa 20)), (0, .ref (qa 0)), (1, .int r)]) hx hb dX12_cathedral_15 rfl hl (by decide) rfl (fun ls hl => ?_)
    refine lv_iconst (v := (-1)) hx hb dX12_cathedral_16 (by decide) ?_
    refine lv_istore (lv' := [(4, .int (-1)), (3, .int (-1)), (2, .ref (qa 20)), (0, .ref (qa 0)), (1, .int r)]) hx hb dX12_cathedral_17 hl (by decide) rfl (fun ls hl => ?_)
    refine lv_iconst (v := 0) hx hb dX12_cathedral_19 (by decide) ?_
    refine lv_istore (lv' := [(5, .int 0), (4, .int (-1)), (3, .int (-1)), (2, .ref (qa 20)), (0, .ref (qa 0)), (1, .int r)]) hx hb dX12_cathedral_20 hl (by decide) rfl (fun ls hl => ?_)
    refine lv_iload hx hb dX12_cathedral_22 (lv_at hl 0 rfl) ?_
    refine lv_aload_n hx hb dX12_cathedral_24 rfl (lv_at hl 4 rfl) ?_
    refine va_get (ci := 9) (v := .ref (qa 30)) (C := RX12) (T := TX12) (N := 16) hx hb hts inX12 hown hK hP 0 rfl rfl 11 (by decide) lf19 (fun _ h9 => h9) rfl dX12_cathedral_25 ?_
    refine va_get (ci := 2) (v := .int 0) (C := RX3) (T := TX3) (N := 12) hx hb hts inX3 hown hK hP 2 rfl rfl 7 (by decide) lf151 (fun _ h9 => h9) rfl dX12_cathedral_28 ?_
    refine lv_icmp_ge (tgt := 101) hx hb dX12_cathedral_31 (by decide) (fun cx10 => ?_) (fun h9 => absurd (by decide) h9)
    refine lv_iload_n hx hb dX12_cathedral_101 rfl (lv_at hl 2 rfl) ?_
    exact hret _ _ _ _ _ _ (-1) () (by decide) (by decide) dX12_cathedral_102 rfl rfl (hP.sub [] rfl) (hD.sub [] (by decide) rfl) hS
  · skip
    refine lv_iconst (v := (-1)) hx hb dX12_cathedral_7 (by decide) ?_
    exact hret _ _ _ _ _ _ (-1) () (by decide) (by decide) dX12_cathedral_8 rfl rfl (hP.sub [] rfl) (hD.sub [] (by decide) rfl) hS
def pw_needs_0 : List Cond := .code yX12_needs cX12_needs 2 (some .int) :: ([.code yX12_netNow cX12_netNow 1 (some (.object "RiverVows$Net")), .fieldLink RX12 58 "RiverVows" "net" "LRiverVows$Net;", .fieldLink RX12 19 "RiverVows" "country" "LRiverVows$Land;", .fieldLink RX12 38 "RiverVows" "now" "LRiverVows$Standing;", .fieldLink RX12 170 "RiverVows$Standing" "husband" "[I", .code yX5_lay cX5_lay 4 none, .code yX5_clear cX5_clear 3 none, .fieldLink RX5 18 "RiverVows$Net" "land" "LRiverVows$Land;", .fieldLink RX5 9 "RiverVows$Net" "husband" "[I", .fieldLink RX5 15 "RiverVows$Net" "whole" "[I", .methodLink RX5 22 yX5_clear, .instanceMethod yX5_clear, .selects RX5 yX5_clear yX5_clear, .initialized RX5, .fieldLink RX5 26 "RiverVows$Land" "rivers" "I", .methodLink RX12 173 yX5_lay, .instanceMethod yX5_lay, .selects RX5 yX5_lay yX5_lay, .methodLink RX12 177 yX12_netNow, .instanceMethod yX12_netNow, .selects RX12 yX12_netNow yX12_netNow, .initialized RX12, .code yX12_season cX12_season 1 (some .int), .fieldLink RX12 167 "RiverVows$Standing" "passed" "I", .methodLink RX12 226 yX12_season, .instanceMethod yX12_season, .selects RX12 yX12_season yX12_season, .code yX5_dryMills cX5_dryMills 5 (some .int), .methodLink RX12 229 yX5_dryMills, .instanceMethod yX5_dryMills, .selects RX5 yX5_dryMills yX5_dryMills] ++ wsX120 ++ wsX90 ++ wsX50 ++ wsX30)
set_option maxRecDepth 20000 in
theorem pg_needs_0_0 : GoodIn pw_needs_0 (wsV RX12 177 RX12 yX12_netNow pw_netNow) := goodIn_sub (by decide +kernel) (by decide +kernel)
set_option maxRecDepth 20000 in
theorem pg_needs_0_1 : GoodIn pw_needs_0 (wsV RX12 226 RX12 yX12_season pw_season) := goodIn_sub (by decide +kernel) (by decide +kernel)
set_option maxRecDepth 20000 in
theorem pg_needs_0_2 : GoodIn pw_needs_0 (wsV RX12 229 RX5 yX5_dryMills pw_Net_dryMills) := goodIn_sub (by decide +kernel) (by decide +kernel)
set_option maxHeartbeats 4000000 in
set_option maxRecDepth 100000 in
theorem c_needs_0 (l : Launch) (D : va_G) (k : Nat → ClassId) (sz : Nat) (qa : Nat → Nat)  : pMi l yX12_needs pw_needs_0 ({ frames := 3, cells := 0, slots := 0, locals := 65 }) D k [.ref (qa 0), .int 0] [((qa 0), .inr (9, [.ref (qa 1), .ref (qa 6), .ref (qa 9), .ref (qa 17), .ref (qa 18), .ref (qa 19), .ref (qa 20), .ref (qa 23), .ref (qa 25), .ref (qa 28), .ref (qa 29), .ref (qa 30), .ref (qa 31), .int 0, .int 0, .int 0])), ((qa 9), .inr (8, [.ref (qa 10), .ref (qa 11), .ref (qa 12), .ref (qa 13), .ref (qa 14), .ref (qa 15), .ref (qa 16), .int 0, .int (-1), .int 0, .int 0])), ((qa 30), .inr (2, [.ref (qa 133), .ref (qa 134), .ref (qa 135), .ref (qa 136), .ref (qa 137), .ref (qa 138), .ref (qa 139), .int 0, .int 0, .int 0, .int 0, .int 0])), ((qa 20), .inr (4, [.ref (qa 21), .ref (qa 22), .ref (qa 30)])), ((qa 21), .inl (k 1, 6, .inl (fun _ => 0))), ((qa 22), .inl (k 1, 6, .inl (fun _ => 0)))] sz (S := Unit) (fun r u => r = 0) (fun u => []) 0 0 := by
  refine p_ofi (cc := cX12_needs) (maxL := 2) (rt := .int) (by decide) rfl (Nat.le_of_ble_eq_true rfl) ?_
  intro p e s m below meth c hx hb hml hown hts hK hN A hA hP hD hS Q hret ls hl
  have hl : lv_has ls 2 [(0, .ref (qa 0)), (1, .int 0)] := hl
  refine lv_iload_n hx hb dX12_needs_0 rfl (lv_at hl 1 rfl) ?_
  refine lv_if_ne (tgt := 16) hx hb dX12_needs_1 (by decide) (fun h9 => absurd (by decide) h9) (fun cx1 => ?_)
  refine lv_aload_n hx hb dX12_needs_4 rfl (lv_at hl 0 rfl) ?_
  refine p_jr (wr := []) (va_runV (As := []) (rest := []) ⟨hx, hb, hml, hown, hts⟩ (c_netNow l D k _ qa (fun _ => 0) (fun _ => 0)) (cwV 0 hts pg_needs_0_0 rfl rfl rfl (by decide +kernel) ⟨Nat.le_of_ble_eq_true rfl, Nat.le_of_ble_eq_true rfl⟩) (pV hK hN hP hD [0, 1, 2, 3, 4, 5] rfl (by decide) rfl 0 rfl rfl) rfl rfl hl.1 rfl (lv_room (Nat.le_of_ble_eq_true rfl)) dX12_needs_5 ⟨by decide, by decide⟩) hP hD hS hA [0, 1, 2, 3, 4, 5] [] rfl rfl (by decide) (by decide) (fun ux2 H locs wx3 hP hD hS => ?_)
  obtain ⟨f9_x5, g9_x6⟩ := ux2
  have hP : va_P D vwCl [((qa 0), .inr (9, [.ref (qa 1), .ref (qa 6), .ref (qa 9), .ref (qa 17), .ref (qa 18), .ref (qa 19), .ref (qa 20), .ref (qa 23), .ref (qa 25), .ref (qa 28), .ref (qa 29), .ref (qa 30), .ref (qa 31), .int 0, .int 0, .int 0])), ((qa 9), .inr (8, [.ref (qa 10), .ref (qa 11), .ref (qa 12), .ref (qa 13), .ref (qa 14), .ref (qa 15), .ref (qa 16), .int 0, .int (-1), .int 0, .int 0])), ((qa 30), .inr (2, [.ref (qa 133), .ref (qa 134), .ref (qa 135), .ref (qa 136), .ref (qa 137), .ref (qa 138), .ref (qa 139), .int 0, .int 0, .int 0, .int 0, .int 0])), ((qa 20), .inr (4, [.ref (qa 21), .ref (qa 22), .ref (qa 30)])), ((qa 21), .inl (k 1, 6, .inl f9_x5)), ((qa 22), .inl (k 1, 6, .inl g9_x6))] H := hP
  have hD : va_D A [((qa 0), .inr (9, [.ref (qa 1), .ref (qa 6), .ref (qa 9), .ref (qa 17), .ref (qa 18), .ref (qa 19), .ref (qa 20), .ref (qa 23), .ref (qa 25), .ref (qa 28), .ref (qa 29), .ref (qa 30), .ref (qa 31), .int 0, .int 0, .int 0])), ((qa 9), .inr (8, [.ref (qa 10), .ref (qa 11), .ref (qa 12), .ref (qa 13), .ref (qa 14), .ref (qa 15), .ref (qa 16), .int 0, .int (-1), .int 0, .int 0])), ((qa 30), .inr (2, [.ref (qa 133), .ref (qa 134), .ref (qa 135), .ref (qa 136), .ref (qa 137), .ref (qa 138), .ref (qa 139), .int 0, .int 0, .int 0, .int 0, .int 0])), ((qa 20), .inr (4, [.ref (qa 21), .ref (qa 22), .ref (qa 30)])), ((qa 21), .inl (k 1, 6, .inl f9_x5)), ((qa 22), .inl (k 1, 6, .inl g9_x6))] := hD
  refine lv_aload_n hx hb dX12_needs_8 rfl (lv_at hl 0 rfl) ?_
  refine p_ji (wr := [((qa 30), .inr (2, [.ref (qa 133), .ref (qa 134), .ref (qa 135), .ref (qa 136), .ref (qa 137), .ref (qa 138), .ref (qa 139), .int 0, .int 0, .int 0, .int 0, .int 0])), ((qa 20), .inr (4, [.ref (qa 21), .ref (qa 22), .ref (qa 30)])), ((qa 21), .inl (k 1, 6, .inl f9_x5)), ((qa 22), .inl (k 1, 6, .inl g9_x6))]) (va_runV (As := []) (rest := [.ref (qa 20)]) ⟨hx, hb, hml, hown, hts⟩ (c_season l D k _ qa) (cwV 0 hts pg_needs_0_1 rfl rfl rfl (by decide +kernel) ⟨Nat.le_of_ble_eq_true rfl, Nat.le_of_ble_eq_true rfl⟩) (pV hK hN hP hD [0, 1] rfl (by decide) rfl 0 rfl rfl) rfl rfl hl.1 rfl (lv_room (Nat.le_of_ble_eq_true rfl)) dX12_needs_9 ⟨by decide, by decide⟩) hP hD hS hA [0, 1] [2, 3, 4, 5] rfl rfl (by decide) (by decide) (fun rx9 ux7 H locs wx8 hP hD hS => ?_)
  have hx10 : rx9 = 0 := wx8
  subst hx10
  have hP : va_P D vwCl [((qa 30), .inr (2, [.ref (qa 133), .ref (qa 134), .ref (qa 135), .ref (qa 136), .ref (qa 137), .ref (qa 138), .ref (qa 139), .int 0, .int 0, .int 0, .int 0, .int 0])), ((qa 20), .inr (4, [.ref (qa 21), .ref (qa 22), .ref (qa 30)])), ((qa 21), .inl (k 1, 6, .inl f9_x5)), ((qa 22), .inl (k 1, 6, .inl g9_x6)), ((qa 0), .inr (9, [.ref (qa 1), .ref (qa 6), .ref (qa 9), .ref (qa 17), .ref (qa 18), .ref (qa 19), .ref (qa 20), .ref (qa 23), .ref (qa 25), .ref (qa 28), .ref (qa 29), .ref (qa 30), .ref (qa 31), .int 0, .int 0, .int 0])), ((qa 9), .inr (8, [.ref (qa 10), .ref (qa 11), .ref (qa 12), .ref (qa 13), .ref (qa 14), .ref (qa 15), .ref (qa 16), .int 0, .int (-1), .int 0, .int 0]))] H := hP
  have hD : va_D A [((qa 30), .inr (2, [.ref (qa 133), .ref (qa 134), .ref (qa 135), .ref (qa 136), .ref (qa 137), .ref (qa 138), .ref (qa 139), .int 0, .int 0, .int 0, .int 0, .int 0])), ((qa 20), .inr (4, [.ref (qa 21), .ref (qa 22), .ref (qa 30)])), ((qa 21), .inl (k 1, 6, .inl f9_x5)), ((qa 22), .inl (k 1, 6, .inl g9_x6)), ((qa 0), .inr (9, [.ref (qa 1), .ref (qa 6), .ref (qa 9), .ref (qa 17), .ref (qa 18), .ref (qa 19), .ref (qa 20), .ref (qa 23), .ref (qa 25), .ref (qa 28), .ref (qa 29), .ref (qa 30), .ref (qa 31), .int 0, .int 0, .int 0])), ((qa 9), .inr (8, [.ref (qa 10), .ref (qa 11), .ref (qa 12), .ref (qa 13), .ref (qa 14), .ref (qa 15), .ref (qa 16), .int 0, .int (-1), .int 0, .int 0]))] := hD
  refine p_ji (wr := [((qa 21), .inl (k 1, 6, .inl f9_x5)), ((qa 22), .inl (k 1, 6, .inl g9_x6)), ((qa 0), .inr (9, [.ref (qa 1), .ref (qa 6), .ref (qa 9), .ref (qa 17), .ref (qa 18), .ref (qa 19), .ref (qa 20), .ref (qa 23), .ref (qa 25), .ref (qa 28), .ref (qa 29), .ref (qa 30), .ref (qa 31), .int 0, .int 0, .int 0])), ((qa 9), .inr (8, [.ref (qa 10), .ref (qa 11), .ref (qa 12), .ref (qa 13), .ref (qa 14), .ref (qa 15), .ref (qa 16), .int 0, .int (-1), .int 0, .int 0]))]) (va_runV (As := [.int 0]) (rest := []) ⟨hx, hb, hml, hown, hts⟩ (c_Net_dryMills l D k _ (qa 20) (qa 21) (qa 22) (qa 30) (qa 133) (qa 134) (qa 135) (qa 136) (qa 137) (qa 138) (qa 139) 0) (cwV 1 hts pg_needs_0_2 rfl rfl rfl (by decide +kernel) ⟨Nat.le_of_ble_eq_true rfl, Nat.le_of_ble_eq_true rfl⟩) (pV hK hN hP hD [1, 0] rfl (by decide) rfl 1 rfl rfl) rfl rfl hl.1 rfl (lv_room (Nat.le_of_ble_eq_true rfl)) dX12_needs_12 ⟨by decide, by decide⟩) hP hD hS hA [1, 0] [2, 3, 4, 5] rfl rfl (by decide) (by decide) (fun rx13 ux11 H locs wx12 hP hD hS => ?_)
  have hx14 : rx13 = 0 := wx12
  subst hx14
  have hP : va_P D vwCl [((qa 21), .inl (k 1, 6, .inl f9_x5)), ((qa 22), .inl (k 1, 6, .inl g9_x6)), ((qa 0), .inr (9, [.ref (qa 1), .ref (qa 6), .ref (qa 9), .ref (qa 17), .ref (qa 18), .ref (qa 19), .ref (qa 20), .ref (qa 23), .ref (qa 25), .ref (qa 28), .ref (qa 29), .ref (qa 30), .ref (qa 31), .int 0, .int 0, .int 0])), ((qa 9), .inr (8, [.ref (qa 10), .ref (qa 11), .ref (qa 12), .ref (qa 13), .ref (qa 14), .ref (qa 15), .ref (qa 16), .int 0, .int (-1), .int 0, .int 0])), ((qa 20), .inr (4, [.ref (qa 21), .ref (qa 22), .ref (qa 30)])), ((qa 30), .inr (2, [.ref (qa 133), .ref (qa 134), .ref (qa 135), .ref (qa 136), .ref (qa 137), .ref (qa 138), .ref (qa 139), .int 0, .int 0, .int 0, .int 0, .int 0]))] H := hP
  have hD : va_D A [((qa 21), .inl (k 1, 6, .inl f9_x5)), ((qa 22), .inl (k 1, 6, .inl g9_x6)), ((qa 0), .inr (9, [.ref (qa 1), .ref (qa 6), .ref (qa 9), .ref (qa 17), .ref (qa 18), .ref (qa 19), .ref (qa 20), .ref (qa 23), .ref (qa 25), .ref (qa 28), .ref (qa 29), .ref (qa 30), .ref (qa 31), .int 0, .int 0, .int 0])), ((qa 9), .inr (8, [.ref (qa 10), .ref (qa 11), .ref (qa 12), .ref (qa 13), .ref (qa 14), .ref (qa 15), .ref (qa 16), .int 0, .int (-1), .int 0, .int 0])), ((qa 20), .inr (4, [.ref (qa 21), .ref (qa 22), .ref (qa 30)])), ((qa 30), .inr (2, [.ref (qa 133), .ref (qa 134), .ref (qa 135), .ref (qa 136), .ref (qa 137), .ref (qa 138), .ref (qa 139), .int 0, .int 0, .int 0, .int 0, .int 0]))] := hD
  exact hret _ _ _ _ _ _ 0 () (by decide) (by decide) dX12_needs_15 rfl rfl (hP.sub [] rfl) (hD.sub [] (by decide) rfl) hS
def pw_needs_1 : List Cond := .code yX12_needs cX12_needs 2 (some .int) :: ([.code yX12_netNow cX12_netNow 1 (some (.object "RiverVows$Net")), .fieldLink RX12 58 "RiverVows" "net" "LRiverVows$Net;", .fieldLink RX12 19 "RiverVows" "country" "LRiverVows$Land;", .fieldLink RX12 38 "RiverVows" "now" "LRiverVows$Standing;", .fieldLink RX12 170 "RiverVows$Standing" "husband" "[I", .code yX5_lay cX5_lay 4 none, .code yX5_clear cX5_clear 3 none, .fieldLink RX5 18 "RiverVows$Net" "land" "LRiverVows$Land;", .fieldLink RX5 9 "RiverVows$Net" "husband" "[I", .fieldLink RX5 15 "RiverVows$Net" "whole" "[I", .methodLink RX5 22 yX5_clear, .instanceMethod yX5_clear, .selects RX5 yX5_clear yX5_clear, .initialized RX5, .fieldLink RX5 26 "RiverVows$Land" "rivers" "I", .methodLink RX12 173 yX5_lay, .instanceMethod yX5_lay, .selects RX5 yX5_lay yX5_lay, .methodLink RX12 177 yX12_netNow, .instanceMethod yX12_netNow, .selects RX12 yX12_netNow yX12_netNow, .initialized RX12, .code yX12_season cX12_season 1 (some .int), .fieldLink RX12 167 "RiverVows$Standing" "passed" "I", .methodLink RX12 226 yX12_season, .instanceMethod yX12_season, .selects RX12 yX12_season yX12_season, .code yX5_floodedTowns cX5_floodedTowns 5 (some .int), .methodLink RX12 232 yX5_floodedTowns, .instanceMethod yX5_floodedTowns, .selects RX5 yX5_floodedTowns yX5_floodedTowns] ++ wsX120 ++ wsX90 ++ wsX50 ++ wsX30)
set_option maxRecDepth 20000 in
theorem pg_needs_1_0 : GoodIn pw_needs_1 (wsV RX12 177 RX12 yX12_netNow pw_netNow) := goodIn_sub (by decide +kernel) (by decide +kernel)
set_option maxRecDepth 20000 in
theorem pg_needs_1_1 : GoodIn pw_needs_1 (wsV RX12 226 RX12 yX12_season pw_season) := goodIn_sub (by decide +kernel) (by decide +kernel)
set_option maxRecDepth 20000 in
theorem pg_needs_1_2 : GoodIn pw_needs_1 (wsV RX12 232 RX5 yX5_floodedTowns pw_Net_floodedTowns) := goodIn_sub (by decide +kernel) (by decide +kernel)
set_option maxHeartbeats 4000000 in
set_option maxRecDepth 100000 in
theorem c_needs_1 (l : Launch) (D : va_G) (k : Nat → ClassId) (sz : Nat) (qa : Nat → Nat)  : pMi l yX12_needs pw_needs_1 ({ frames := 3, cells := 0, slots := 0, locals := 65 }) D k [.ref (qa 0), .int 1] [((qa 0), .inr (9, [.ref (qa 1), .ref (qa 6), .ref (qa 9), .ref (qa 17), .ref (qa 18), .ref (qa 19), .ref (qa 20), .ref (qa 23), .ref (qa 25), .ref (qa 28), .ref (qa 29), .ref (qa 30), .ref (qa 31), .int 0, .int 0, .int 0])), ((qa 9), .inr (8, [.ref (qa 10), .ref (qa 11), .ref (qa 12), .ref (qa 13), .ref (qa 14), .ref (qa 15), .ref (qa 16), .int 0, .int (-1), .int 0, .int 0])), ((qa 30), .inr (2, [.ref (qa 133), .ref (qa 134), .ref (qa 135), .ref (qa 136), .ref (qa 137), .ref (qa 138), .ref (qa 139), .int 0, .int 0, .int 0, .int 0, .int 0])), ((qa 20), .inr (4, [.ref (qa 21), .ref (qa 22), .ref (qa 30)])), ((qa 21), .inl (k 1, 6, .inl (fun _ => 0))), ((qa 22), .inl (k 1, 6, .inl (fun _ => 0)))] sz (S := Unit) (fun r u => r = 0) (fun u => []) 0 0 := by
  refine p_ofi (cc := cX12_needs) (maxL := 2) (rt := .int) (by decide) rfl (Nat.le_of_ble_eq_true rfl) ?_
  intro p e s m below meth c hx hb hml hown hts hK hN A hA hP hD hS Q hret ls hl
  have hl : lv_has ls 2 [(0, .ref (qa 0)), (1, .int 1)] := hl
  refine lv_iload_n hx hb dX12_needs_0 rfl (lv_at hl 1 rfl) ?_
  refine lv_if_ne (tgt := 16) hx hb dX12_needs_1 (by decide) (fun cx1 => ?_) (fun h9 => absurd h9 (by decide))
  refine lv_iload_n hx hb dX12_needs_16 rfl (lv_at hl 1 rfl) ?_
  refine lv_iconst (v := 1) hx hb dX12_needs_17 (by decide) ?_
  refine lv_icmp_ne (tgt := 33) hx hb dX12_needs_18 (by decide) (fun h9 => absurd (by decide) h9) (fun cx2 => ?_)
  refine lv_aload_n hx hb dX12_needs_21 rfl (lv_at hl 0 rfl) ?_
  refine p_jr (wr := []) (va_runV (As := []) (rest := []) ⟨hx, hb, hml, hown, hts⟩ (c_netNow l D k _ qa (fun _ => 0) (fun _ => 0)) (cwV 0 hts pg_needs_1_0 rfl rfl rfl (by decide +kernel) ⟨Nat.le_of_ble_eq_true rfl, Nat.le_of_ble_eq_true rfl⟩) (pV hK hN hP hD [0, 1, 2, 3, 4, 5] rfl (by decide) rfl 0 rfl rfl) rfl rfl hl.1 rfl (lv_room (Nat.le_of_ble_eq_true rfl)) dX12_needs_22 ⟨by decide, by decide⟩) hP hD hS hA [0, 1, 2, 3, 4, 5] [] rfl rfl (by decide) (by decide) (fun ux3 H locs wx4 hP hD hS => ?_)
  obtain ⟨f9_x6, g9_x7⟩ := ux3
  have hP : va_P D vwCl [((qa 0), .inr (9, [.ref (qa 1), .ref (qa 6), .ref (qa 9), .ref (qa 17), .ref (qa 18), .ref (qa 19), .ref (qa 20), .ref (qa 23), .ref (qa 25), .ref (qa 28), .ref (qa 29), .ref (qa 30), .ref (qa 31), .int 0, .int 0, .int 0])), ((qa 9), .inr (8, [.ref (qa 10), .ref (qa 11), .ref (qa 12), .ref (qa 13), .ref (qa 14), .ref (qa 15), .ref (qa 16), .int 0, .int (-1), .int 0, .int 0])), ((qa 30), .inr (2, [.ref (qa 133), .ref (qa 134), .ref (qa 135), .ref (qa 136), .ref (qa 137), .ref (qa 138), .ref (qa 139), .int 0, .int 0, .int 0, .int 0, .int 0])), ((qa 20), .inr (4, [.ref (qa 21), .ref (qa 22), .ref (qa 30)])), ((qa 21), .inl (k 1, 6, .inl f9_x6)), ((qa 22), .inl (k 1, 6, .inl g9_x7))] H := hP
  have hD : va_D A [((qa 0), .inr (9, [.ref (qa 1), .ref (qa 6), .ref (qa 9), .ref (qa 17), .ref (qa 18), .ref (qa 19), .ref (qa 20), .ref (qa 23), .ref (qa 25), .ref (qa 28), .ref (qa 29), .ref (qa 30), .ref (qa 31), .int 0, .int 0, .int 0])), ((qa 9), .inr (8, [.ref (qa 10), .ref (qa 11), .ref (qa 12), .ref (qa 13), .ref (qa 14), .ref (qa 15), .ref (qa 16), .int 0, .int (-1), .int 0, .int 0])), ((qa 30), .inr (2, [.ref (qa 133), .ref (qa 134), .ref (qa 135), .ref (qa 136), .ref (qa 137), .ref (qa 138), .ref (qa 139), .int 0, .int 0, .int 0, .int 0, .int 0])), ((qa 20), .inr (4, [.ref (qa 21), .ref (qa 22), .ref (qa 30)])), ((qa 21), .inl (k 1, 6, .inl f9_x6)), ((qa 22), .inl (k 1, 6, .inl g9_x7))] := hD
  refine lv_aload_n hx hb dX12_needs_25 rfl (lv_at hl 0 rfl) ?_
  refine p_ji (wr := [((qa 30), .inr (2, [.ref (qa 133), .ref (qa 134), .ref (qa 135), .ref (qa 136), .ref (qa 137), .ref (qa 138), .ref (qa 139), .int 0, .int 0, .int 0, .int 0, .int 0])), ((qa 20), .inr (4, [.ref (qa 21), .ref (qa 22), .ref (qa 30)])), ((qa 21), .inl (k 1, 6, .inl f9_x6)), ((qa 22), .inl (k 1, 6, .inl g9_x7))]) (va_runV (As := []) (rest := [.ref (qa 20)]) ⟨hx, hb, hml, hown, hts⟩ (c_season l D k _ qa) (cwV 0 hts pg_needs_1_1 rfl rfl rfl (by decide +kernel) ⟨Nat.le_of_ble_eq_true rfl, Nat.le_of_ble_eq_true rfl⟩) (pV hK hN hP hD [0, 1] rfl (by decide) rfl 0 rfl rfl) rfl rfl hl.1 rfl (lv_room (Nat.le_of_ble_eq_true rfl)) dX12_needs_26 ⟨by decide, by decide⟩) hP hD hS hA [0, 1] [2, 3, 4, 5] rfl rfl (by decide) (by decide) (fun rx10 ux8 H locs wx9 hP hD hS => ?_)
  have hx11 : rx10 = 0 := wx9
  subst hx11
  have hP : va_P D vwCl [((qa 30), .inr (2, [.ref (qa 133), .ref (qa 134), .ref (qa 135), .ref (qa 136), .ref (qa 137), .ref (qa 138), .ref (qa 139), .int 0, .int 0, .int 0, .int 0, .int 0])), ((qa 20), .inr (4, [.ref (qa 21), .ref (qa 22), .ref (qa 30)])), ((qa 21), .inl (k 1, 6, .inl f9_x6)), ((qa 22), .inl (k 1, 6, .inl g9_x7)), ((qa 0), .inr (9, [.ref (qa 1), .ref (qa 6), .ref (qa 9), .ref (qa 17), .ref (qa 18), .ref (qa 19), .ref (qa 20), .ref (qa 23), .ref (qa 25), .ref (qa 28), .ref (qa 29), .ref (qa 30), .ref (qa 31), .int 0, .int 0, .int 0])), ((qa 9), .inr (8, [.ref (qa 10), .ref (qa 11), .ref (qa 12), .ref (qa 13), .ref (qa 14), .ref (qa 15), .ref (qa 16), .int 0, .int (-1), .int 0, .int 0]))] H := hP
  have hD : va_D A [((qa 30), .inr (2, [.ref (qa 133), .ref (qa 134), .ref (qa 135), .ref (qa 136), .ref (qa 137), .ref (qa 138), .ref (qa 139), .int 0, .int 0, .int 0, .int 0, .int 0])), ((qa 20), .inr (4, [.ref (qa 21), .ref (qa 22), .ref (qa 30)])), ((qa 21), .inl (k 1, 6, .inl f9_x6)), ((qa 22), .inl (k 1, 6, .inl g9_x7)), ((qa 0), .inr (9, [.ref (qa 1), .ref (qa 6), .ref (qa 9), .ref (qa 17), .ref (qa 18), .ref (qa 19), .ref (qa 20), .ref (qa 23), .ref (qa 25), .ref (qa 28), .ref (qa 29), .ref (qa 30), .ref (qa 31), .int 0, .int 0, .int 0])), ((qa 9), .inr (8, [.ref (qa 10), .ref (qa 11), .ref (qa 12), .ref (qa 13), .ref (qa 14), .ref (qa 15), .ref (qa 16), .int 0, .int (-1), .int 0, .int 0]))] := hD
  refine p_ji (wr := [((qa 21), .inl (k 1, 6, .inl f9_x6)), ((qa 22), .inl (k 1, 6, .inl g9_x7)), ((qa 0), .inr (9, [.ref (qa 1), .ref (qa 6), .ref (qa 9), .ref (qa 17), .ref (qa 18), .ref (qa 19), .ref (qa 20), .ref (qa 23), .ref (qa 25), .ref (qa 28), .ref (qa 29), .ref (qa 30), .ref (qa 31), .int 0, .int 0, .int 0])), ((qa 9), .inr (8, [.ref (qa 10), .ref (qa 11), .ref (qa 12), .ref (qa 13), .ref (qa 14), .ref (qa 15), .ref (qa 16), .int 0, .int (-1), .int 0, .int 0]))]) (va_runV (As := [.int 0]) (rest := []) ⟨hx, hb, hml, hown, hts⟩ (c_Net_floodedTowns l D k _ (qa 20) (qa 21) (qa 22) (qa 30) (qa 133) (qa 134) (qa 135) (qa 136) (qa 137) (qa 138) (qa 139) 0) (cwV 1 hts pg_needs_1_2 rfl rfl rfl (by decide +kernel) ⟨Nat.le_of_ble_eq_true rfl, Nat.le_of_ble_eq_true rfl⟩) (pV hK hN hP hD [1, 0] rfl (by decide) rfl 1 rfl rfl) rfl rfl hl.1 rfl (lv_room (Nat.le_of_ble_eq_true rfl)) dX12_needs_29 ⟨by decide, by decide⟩) hP hD hS hA [1, 0] [2, 3, 4, 5] rfl rfl (by decide) (by decide) (fun rx14 ux12 H locs wx13 hP hD hS => ?_)
  have hx15 : rx14 = 0 := wx13
  subst hx15
  have hP : va_P D vwCl [((qa 21), .inl (k 1, 6, .inl f9_x6)), ((qa 22), .inl (k 1, 6, .inl g9_x7)), ((qa 0), .inr (9, [.ref (qa 1), .ref (qa 6), .ref (qa 9), .ref (qa 17), .ref (qa 18), .ref (qa 19), .ref (qa 20), .ref (qa 23), .ref (qa 25), .ref (qa 28), .ref (qa 29), .ref (qa 30), .ref (qa 31), .int 0, .int 0, .int 0])), ((qa 9), .inr (8, [.ref (qa 10), .ref (qa 11), .ref (qa 12), .ref (qa 13), .ref (qa 14), .ref (qa 15), .ref (qa 16), .int 0, .int (-1), .int 0, .int 0])), ((qa 20), .inr (4, [.ref (qa 21), .ref (qa 22), .ref (qa 30)])), ((qa 30), .inr (2, [.ref (qa 133), .ref (qa 134), .ref (qa 135), .ref (qa 136), .ref (qa 137), .ref (qa 138), .ref (qa 139), .int 0, .int 0, .int 0, .int 0, .int 0]))] H := hP
  have hD : va_D A [((qa 21), .inl (k 1, 6, .inl f9_x6)), ((qa 22), .inl (k 1, 6, .inl g9_x7)), ((qa 0), .inr (9, [.ref (qa 1), .ref (qa 6), .ref (qa 9), .ref (qa 17), .ref (qa 18), .ref (qa 19), .ref (qa 20), .ref (qa 23), .ref (qa 25), .ref (qa 28), .ref (qa 29), .ref (qa 30), .ref (qa 31), .int 0, .int 0, .int 0])), ((qa 9), .inr (8, [.ref (qa 10), .ref (qa 11), .ref (qa 12), .ref (qa 13), .ref (qa 14), .ref (qa 15), .ref (qa 16), .int 0, .int (-1), .int 0, .int 0])), ((qa 20), .inr (4, [.ref (qa 21), .ref (qa 22), .ref (qa 30)])), ((qa 30), .inr (2, [.ref (qa 133), .ref (qa 134), .ref (qa 135), .ref (qa 136), .ref (qa 137), .ref (qa 138), .ref (qa 139), .int 0, .int 0, .int 0, .int 0, .int 0]))] := hD
  exact hret _ _ _ _ _ _ 0 () (by decide) (by decide) dX12_needs_32 rfl rfl (hP.sub [] rfl) (hD.sub [] (by decide) rfl) hS
def pw_needs_e : List Cond := .code yX12_needs cX12_needs 2 (some .int) :: ([])
set_option maxHeartbeats 4000000 in
set_option maxRecDepth 100000 in
theorem c_needs_e (l : Launch) (D : va_G) (k : Nat → ClassId) (sz : Nat) (qa : Nat → Nat) (w : Int32) (hw0 : ¬ w = 0) (hw1 : ¬ w = 1) : pMi l yX12_needs pw_needs_e ({ frames := 0, cells := 0, slots := 0, locals := 0 }) D k [.ref (qa 0), .int w] [((qa 0), .inr (9, [.ref (qa 1), .ref (qa 6), .ref (qa 9), .ref (qa 17), .ref (qa 18), .ref (qa 19), .ref (qa 20), .ref (qa 23), .ref (qa 25), .ref (qa 28), .ref (qa 29), .ref (qa 30), .ref (qa 31), .int 0, .int 0, .int 0])), ((qa 9), .inr (8, [.ref (qa 10), .ref (qa 11), .ref (qa 12), .ref (qa 13), .ref (qa 14), .ref (qa 15), .ref (qa 16), .int 0, .int (-1), .int 0, .int 0])), ((qa 30), .inr (2, [.ref (qa 133), .ref (qa 134), .ref (qa 135), .ref (qa 136), .ref (qa 137), .ref (qa 138), .ref (qa 139), .int 0, .int 0, .int 0, .int 0, .int 0])), ((qa 20), .inr (4, [.ref (qa 21), .ref (qa 22), .ref (qa 30)])), ((qa 21), .inl (k 1, 6, .inl (fun _ => 0))), ((qa 22), .inl (k 1, 6, .inl (fun _ => 0)))] sz (S := Unit) (fun r u => r = (-1)) (fun u => []) 0 0 := by
  refine p_ofi (cc := cX12_needs) (maxL := 2) (rt := .int) (by decide) rfl (Nat.le_of_ble_eq_true rfl) ?_
  intro p e s m below meth c hx hb hml hown hts hK hN A hA hP hD hS Q hret ls hl
  have hl : lv_has ls 2 [(0, .ref (qa 0)), (1, .int w)] := hl
  refine lv_iload_n hx hb dX12_needs_0 rfl (lv_at hl 1 rfl) ?_
  refine lv_if_ne (tgt := 16) hx hb dX12_needs_1 (by decide) (fun cx1 => ?_) (fun h9 => absurd h9 hw0)
  refine lv_iload_n hx hb dX12_needs_16 rfl (lv_at hl 1 rfl) ?_
  refine lv_iconst (v := 1) hx hb dX12_needs_17 (by decide) ?_
  refine lv_icmp_ne (tgt := 33) hx hb dX12_needs_18 (by decide) (fun cx2 => ?_) (fun h9 => absurd h9 hw1)
  refine lv_iconst (v := (-1)) hx hb dX12_needs_33 (by decide) ?_
  exact hret _ _ _ _ _ _ (-1) () (by decide) (by decide) dX12_needs_34 rfl rfl (hP.sub [] rfl) (hD.sub [] (by decide) rfl) hS
def pw_judged_0 : List Cond := .code yX12_judged cX12_judged 6 (some .int) :: ([.fieldLink RX12 58 "RiverVows" "net" "LRiverVows$Net;", .fieldLink RX12 19 "RiverVows" "country" "LRiverVows$Land;", .code yX5_clear cX5_clear 3 none, .fieldLink RX5 18 "RiverVows$Net" "land" "LRiverVows$Land;", .fieldLink RX5 9 "RiverVows$Net" "husband" "[I", .fieldLink RX5 15 "RiverVows$Net" "whole" "[I", .methodLink RX12 285 yX5_clear, .instanceMethod yX5_clear, .selects RX5 yX5_clear yX5_clear, .initialized RX5, .fieldLink RX12 86 "RiverVows" "lineCount" "I"] ++ wsX120 ++ wsX50)
set_option maxRecDepth 20000 in
theorem pg_judged_0_0 : GoodIn pw_judged_0 (wsV RX12 285 RX5 yX5_clear pw_Net_clear) := goodIn_sub (by decide +kernel) (by decide +kernel)
set_option maxHeartbeats 4000000 in
set_option maxRecDepth 100000 in
theorem c_judged_0 (l : Launch) (D : va_G) (k : Nat → ClassId) (sz : Nat) (qa : Nat → Nat)  : pMi l yX12_judged pw_judged_0 ({ frames := 1, cells := 0, slots := 0, locals := 22 }) D k [.ref (qa 0), .int 0] [((qa 0), .inr (9, [.ref (qa 1), .ref (qa 6), .ref (qa 9), .ref (qa 17), .ref (qa 18), .ref (qa 19), .ref (qa 20), .ref (qa 23), .ref (qa 25), .ref (qa 28), .ref (qa 29), .ref (qa 30), .ref (qa 31), .int 0, .int 0, .int 0])), ((qa 30), .inr (2, [.ref (qa 133), .ref (qa 134), .ref (qa 135), .ref (qa 136), .ref (qa 137), .ref (qa 138), .ref (qa 139), .int 0, .int 0, .int 0, .int 0, .int 0])), ((qa 20), .inr (4, [.ref (qa 21), .ref (qa 22), .ref (qa 30)])), ((qa 21), .inl (k 1, 6, .inl (fun _ => 0))), ((qa 22), .inl (k 1, 6, .inl (fun _ => 0)))] sz (S := Unit) (fun r u => r = (-1)) (fun u => []) 0 0 := by
  refine p_ofi (cc := cX12_judged) (maxL := 6) (rt := .int) (by decide) rfl (Nat.le_of_ble_eq_true rfl) ?_
  intro p e s m below meth c hx hb hml hown hts hK hN A hA hP hD hS Q hret ls hl
  have hl : lv_has ls 6 [(0, .ref (qa 0)), (1, .int 0)] := hl
  have lf58 := hts (.fieldLink RX12 58 "RiverVows" "net" "LRiverVows$Net;") (by decide +kernel)
  have inX12 : ∀ w ∈ wsX120, w ∈ pw_judged_0 := by decide +kernel
  have lf19 := hts (.fieldLink RX12 19 "RiverVows" "country" "LRiverVows$Land;") (by decide +kernel)
  have lf86 := hts (.fieldLink RX12 86 "RiverVows" "lineCount" "I") (by decide +kernel)
  refine lv_iload_n hx hb dX12_judged_0 rfl (lv_at hl 1 rfl) ?_
  refine lv_if_lt (tgt := 9) hx hb dX12_judged_1 (by decide) (fun h9 => absurd h9 (by decide)) (fun cx1 => ?_)
  refine lv_iload_n hx hb dX12_judged_4 rfl (lv_at hl 1 rfl) ?_
  refine lv_iconst (v := 2) hx hb dX12_judged_5 (by decide) ?_
  refine lv_icmp_le (tgt := 12) hx hb dX12_judged_6 (by decide) (fun cx2 => ?_) (fun h9 => absurd (by decide) h9)
  refine lv_aload_n hx hb dX12_judged_12 rfl (lv_at hl 0 rfl) ?_
  refine va_get (ci := 9) (v := .ref (qa 20)) (C := RX12) (T := TX12) (N := 16) hx hb hts inX12 hown hK hP 0 rfl rfl 6 (by decide) lf58 (fun _ h9 => h9) rfl dX12_judged_13 ?_
  refine lv_aload_n hx hb dX12_judged_16 rfl (lv_at hl 0 rfl) ?_
  refine va_get (ci := 9) (v := .ref (qa 30)) (C := RX12) (T := TX12) (N := 16) hx hb hts inX12 hown hK hP 0 rfl rfl 11 (by decide) lf19 (fun _ h9 => h9) rfl dX12_judged_17 ?_
  refine p_jv (wr := [((qa 0), .inr (9, [.ref (qa 1), .ref (qa 6), .ref (qa 9), .ref (qa 17), .ref (qa 18), .ref (qa 19), .ref (qa 20), .ref (qa 23), .ref (qa 25), .ref (qa 28), .ref (qa 29), .ref (qa 30), .ref (qa 31), .int 0, .int 0, .int 0])), ((qa 30), .inr (2, [.ref (qa 133), .ref (qa 134), .ref (qa 135), .ref (qa 136), .ref (qa 137), .ref (qa 138), .ref (qa 139), .int 0, .int 0, .int 0, .int 0, .int 0]))]) (va_runV (As := [.ref (qa 30)]) (rest := []) ⟨hx, hb, hml, hown, hts⟩ (c_Net_clear l D k _ (qa 20) (qa 21) (qa 22) (qa 30) (.ref (qa 30)) (fun _ => 0) (fun _ => 0)) (cwV 1 hts pg_judged_0_0 rfl rfl rfl (by decide +kernel) ⟨Nat.le_of_ble_eq_true rfl, Nat.le_of_ble_eq_true rfl⟩) (pV hK hN hP hD [2, 3, 4] rfl (by decide) rfl 2 rfl rfl) rfl rfl hl.1 rfl (lv_room (Nat.le_of_ble_eq_true rfl)) dX12_judged_20 ⟨by decide, by decide⟩) hP hD hS hA [2, 3, 4] [0, 1] rfl rfl (by decide) (by decide) (fun ux3 H locs wx4 hP hD hS => ?_)
  obtain ⟨f9_x6, g9_x7⟩ := ux3
  have hP : va_P D vwCl [((qa 0), .inr (9, [.ref (qa 1), .ref (qa 6), .ref (qa 9), .ref (qa 17), .ref (qa 18), .ref (qa 19), .ref (qa 20), .ref (qa 23), .ref (qa 25), .ref (qa 28), .ref (qa 29), .ref (qa 30), .ref (qa 31), .int 0, .int 0, .int 0])), ((qa 30), .inr (2, [.ref (qa 133), .ref (qa 134), .ref (qa 135), .ref (qa 136), .ref (qa 137), .ref (qa 138), .ref (qa 139), .int 0, .int 0, .int 0, .int 0, .int 0])), ((qa 20), .inr (4, [.ref (qa 21), .ref (qa 22), .ref (qa 30)])), ((qa 21), .inl (k 1, 6, .inl f9_x6)), ((qa 22), .inl (k 1, 6, .inl g9_x7))] H := hP
  have hD : va_D A [((qa 0), .inr (9, [.ref (qa 1), .ref (qa 6), .ref (qa 9), .ref (qa 17), .ref (qa 18), .ref (qa 19), .ref (qa 20), .ref (qa 23), .ref (qa 25), .ref (qa 28), .ref (qa 29), .ref (qa 30), .ref (qa 31), .int 0, .int 0, .int 0])), ((qa 30), .inr (2, [.ref (qa 133), .ref (qa 134), .ref (qa 135), .ref (qa 136), .ref (qa 137), .ref (qa 138), .ref (qa 139), .int 0, .int 0, .int 0, .int 0, .int 0])), ((qa 20), .inr (4, [.ref (qa 21), .ref (qa 22), .ref (qa 30)])), ((qa 21), .inl (k 1, 6, .inl f9_x6)), ((qa 22), .inl (k 1, 6, .inl g9_x7))] := hD
  refine lv_iconst (v := 0) hx hb dX12_judged_23 (by decide) ?_
  refine lv_istore_n (lv' := [(2, .int 0), (0, .ref (qa 0)), (1, .int 0)]) hx hb dX12_judged_24 rfl hl (by decide) rfl (fun ls hl => ?_)
  refine lv_iconst (v := (-1)) hx hb dX12_judged_25 (by decide) ?_
  refine lv_istore_n (lv' := [(3, .int (-1)), (2, .int 0), (0, .ref (qa 0)), (1, .int 0)]) hx hb dX12_judged_26 rfl hl (by decide) rfl (fun ls hl => ?_)
  refine lv_iconst (v := (-1)) hx hb dX12_judged_27 (by decide) ?_
  refine lv_istore (lv' := [(4, .int (-1)), (3, .int (-1)), (2, .int 0), (0, .ref (qa 0)), (1, .int 0)]) hx hb dX12_judged_28 hl (by decide) rfl (fun ls hl => ?_)
  refine lv_iconst (v := 0) hx hb dX12_judged_30 (by decide) ?_
  refine lv_istore (lv' := [(5, .int 0), (4, .int (-1)), (3, .int (-1)), (2, .int 0), (0, .ref (qa 0)), (1, .int 0)]) hx hb dX12_judged_31 hl (by decide) rfl (fun ls hl => ?_)
  refine lv_iload hx hb dX12_judged_33 (lv_at hl 0 rfl) ?_
  refine lv_aload_n hx hb dX12_judged_35 rfl (lv_at hl 4 rfl) ?_
  refine va_get (ci := 9) (v := .int 0) (C := RX12) (T := TX12) (N := 16) hx hb hts inX12 hown hK hP 0 rfl rfl 13 (by decide) lf86 (fun _ h9 => h9) rfl dX12_judged_36 ?_
  refine lv_icmp_ge (tgt := 118) hx hb dX12_judged_39 (by decide) (fun cx8 => ?_) (fun h9 => absurd (by decide) h9)
  refine lv_iload_n hx hb dX12_judged_118 rfl (lv_at hl 5 rfl) ?_
  refine lv_iconst (v := 2) hx hb dX12_judged_119 (by decide) ?_
  refine lv_icmp_ne (tgt := 131) hx hb dX12_judged_120 (by decide) (fun cx9 => ?_) (fun h9 => absurd h9 (by decide))
  refine lv_iload_n hx hb dX12_judged_131 rfl (lv_at hl 5 rfl) ?_
  refine lv_if_ne (tgt := 139) hx hb dX12_judged_132 (by decide) (fun h9 => absurd (by decide) h9) (fun cx10 => ?_)
  refine lv_iload_n hx hb dX12_judged_135 rfl (lv_at hl 2 rfl) ?_
  refine lv_goto (tgt := 141) hx hb dX12_judged_136 (by decide) ?_
  exact hret _ _ _ _ _ _ (-1) () (by decide) (by decide) dX12_judged_141 rfl rfl (hP.sub [] rfl) (hD.sub [] (by decide) rfl) hS
def pw_judged_1 : List Cond := .code yX12_judged cX12_judged 6 (some .int) :: ([.fieldLink RX12 58 "RiverVows" "net" "LRiverVows$Net;", .fieldLink RX12 19 "RiverVows" "country" "LRiverVows$Land;", .code yX5_clear cX5_clear 3 none, .fieldLink RX5 18 "RiverVows$Net" "land" "LRiverVows$Land;", .fieldLink RX5 9 "RiverVows$Net" "husband" "[I", .fieldLink RX5 15 "RiverVows$Net" "whole" "[I", .methodLink RX12 285 yX5_clear, .instanceMethod yX5_clear, .selects RX5 yX5_clear yX5_clear, .initialized RX5, .fieldLink RX12 86 "RiverVows" "lineCount" "I"] ++ wsX120 ++ wsX50)
set_option maxRecDepth 20000 in
theorem pg_judged_1_0 : GoodIn pw_judged_1 (wsV RX12 285 RX5 yX5_clear pw_Net_clear) := goodIn_sub (by decide +kernel) (by decide +kernel)
set_option maxHeartbeats 4000000 in
set_option maxRecDepth 100000 in
theorem c_judged_1 (l : Launch) (D : va_G) (k : Nat → ClassId) (sz : Nat) (qa : Nat → Nat)  : pMi l yX12_judged pw_judged_1 ({ frames := 1, cells := 0, slots := 0, locals := 22 }) D k [.ref (qa 0), .int 1] [((qa 0), .inr (9, [.ref (qa 1), .ref (qa 6), .ref (qa 9), .ref (qa 17), .ref (qa 18), .ref (qa 19), .ref (qa 20), .ref (qa 23), .ref (qa 25), .ref (qa 28), .ref (qa 29), .ref (qa 30), .ref (qa 31), .int 0, .int 0, .int 0])), ((qa 30), .inr (2, [.ref (qa 133), .ref (qa 134), .ref (qa 135), .ref (qa 136), .ref (qa 137), .ref (qa 138), .ref (qa 139), .int 0, .int 0, .int 0, .int 0, .int 0])), ((qa 20), .inr (4, [.ref (qa 21), .ref (qa 22), .ref (qa 30)])), ((qa 21), .inl (k 1, 6, .inl (fun _ => 0))), ((qa 22), .inl (k 1, 6, .inl (fun _ => 0)))] sz (S := Unit) (fun r u => r = (-1)) (fun u => []) 0 0 := by
  refine p_ofi (cc := cX12_judged) (maxL := 6) (rt := .int) (by decide) rfl (Nat.le_of_ble_eq_true rfl) ?_
  intro p e s m below meth c hx hb hml hown hts hK hN A hA hP hD hS Q hret ls hl
  have hl : lv_has ls 6 [(0, .ref (qa 0)), (1, .int 1)] := hl
  have lf58 := hts (.fieldLink RX12 58 "RiverVows" "net" "LRiverVows$Net;") (by decide +kernel)
  have inX12 : ∀ w ∈ wsX120, w ∈ pw_judged_1 := by decide +kernel
  have lf19 := hts (.fieldLink RX12 19 "RiverVows" "country" "LRiverVows$Land;") (by decide +kernel)
  have lf86 := hts (.fieldLink RX12 86 "RiverVows" "lineCount" "I") (by decide +kernel)
  refine lv_iload_n hx hb dX12_judged_0 rfl (lv_at hl 1 rfl) ?_
  refine lv_if_lt (tgt := 9) hx hb dX12_judged_1 (by decide) (fun h9 => absurd h9 (by decide)) (fun cx1 => ?_)
  refine lv_iload_n hx hb dX12_judged_4 rfl (lv_at hl 1 rfl) ?_
  refine lv_iconst (v := 2) hx hb dX12_judged_5 (by decide) ?_
  refine lv_icmp_le (tgt := 12) hx hb dX12_judged_6 (by decide) (fun cx2 => ?_) (fun h9 => absurd (by decide) h9)
  refine lv_aload_n hx hb dX12_judged_12 rfl (lv_at hl 0 rfl) ?_
  refine va_get (ci := 9) (v := .ref (qa 20)) (C := RX12) (T := TX12) (N := 16) hx hb hts inX12 hown hK hP 0 rfl rfl 6 (by decide) lf58 (fun _ h9 => h9) rfl dX12_judged_13 ?_
  refine lv_aload_n hx hb dX12_judged_16 rfl (lv_at hl 0 rfl) ?_
  refine va_get (ci := 9) (v := .ref (qa 30)) (C := RX12) (T := TX12) (N := 16) hx hb hts inX12 hown hK hP 0 rfl rfl 11 (by decide) lf19 (fun _ h9 => h9) rfl dX12_judged_17 ?_
  refine p_jv (wr := [((qa 0), .inr (9, [.ref (qa 1), .ref (qa 6), .ref (qa 9), .ref (qa 17), .ref (qa 18), .ref (qa 19), .ref (qa 20), .ref (qa 23), .ref (qa 25), .ref (qa 28), .ref (qa 29), .ref (qa 30), .ref (qa 31), .int 0, .int 0, .int 0])), ((qa 30), .inr (2, [.ref (qa 133), .ref (qa 134), .ref (qa 135), .ref (qa 136), .ref (qa 137), .ref (qa 138), .ref (qa 139), .int 0, .int 0, .int 0, .int 0, .int 0]))]) (va_runV (As := [.ref (qa 30)]) (rest := []) ⟨hx, hb, hml, hown, hts⟩ (c_Net_clear l D k _ (qa 20) (qa 21) (qa 22) (qa 30) (.ref (qa 30)) (fun _ => 0) (fun _ => 0)) (cwV 1 hts pg_judged_1_0 rfl rfl rfl (by decide +kernel) ⟨Nat.le_of_ble_eq_true rfl, Nat.le_of_ble_eq_true rfl⟩) (pV hK hN hP hD [2, 3, 4] rfl (by decide) rfl 2 rfl rfl) rfl rfl hl.1 rfl (lv_room (Nat.le_of_ble_eq_true rfl)) dX12_judged_20 ⟨by decide, by decide⟩) hP hD hS hA [2, 3, 4] [0, 1] rfl rfl (by decide) (by decide) (fun ux3 H locs wx4 hP hD hS => ?_)
  obtain ⟨f9_x6, g9_x7⟩ := ux3
  have hP : va_P D vwCl [((qa 0), .inr (9, [.ref (qa 1), .ref (qa 6), .ref (qa 9), .ref (qa 17), .ref (qa 18), .ref (qa 19), .ref (qa 20), .ref (qa 23), .ref (qa 25), .ref (qa 28), .ref (qa 29), .ref (qa 30), .ref (qa 31), .int 0, .int 0, .int 0])), ((qa 30), .inr (2, [.ref (qa 133), .ref (qa 134), .ref (qa 135), .ref (qa 136), .ref (qa 137), .ref (qa 138), .ref (qa 139), .int 0, .int 0, .int 0, .int 0, .int 0])), ((qa 20), .inr (4, [.ref (qa 21), .ref (qa 22), .ref (qa 30)])), ((qa 21), .inl (k 1, 6, .inl f9_x6)), ((qa 22), .inl (k 1, 6, .inl g9_x7))] H := hP
  have hD : va_D A [((qa 0), .inr (9, [.ref (qa 1), .ref (qa 6), .ref (qa 9), .ref (qa 17), .ref (qa 18), .ref (qa 19), .ref (qa 20), .ref (qa 23), .ref (qa 25), .ref (qa 28), .ref (qa 29), .ref (qa 30), .ref (qa 31), .int 0, .int 0, .int 0])), ((qa 30), .inr (2, [.ref (qa 133), .ref (qa 134), .ref (qa 135), .ref (qa 136), .ref (qa 137), .ref (qa 138), .ref (qa 139), .int 0, .int 0, .int 0, .int 0, .int 0])), ((qa 20), .inr (4, [.ref (qa 21), .ref (qa 22), .ref (qa 30)])), ((qa 21), .inl (k 1, 6, .inl f9_x6)), ((qa 22), .inl (k 1, 6, .inl g9_x7))] := hD
  refine lv_iconst (v := 0) hx hb dX12_judged_23 (by decide) ?_
  refine lv_istore_n (lv' := [(2, .int 0), (0, .ref (qa 0)), (1, .int 1)]) hx hb dX12_judged_24 rfl hl (by decide) rfl (fun ls hl => ?_)
  refine lv_iconst (v := (-1)) hx hb dX12_judged_25 (by decide) ?_
  refine lv_istore_n (lv' := [(3, .int (-1)), (2, .int 0), (0, .ref (qa 0)), (1, .int 1)]) hx hb dX12_judged_26 rfl hl (by decide) rfl (fun ls hl => ?_)
  refine lv_iconst (v := (-1)) hx hb dX12_judged_27 (by decide) ?_
  refine lv_istore (lv' := [(4, .int (-1)), (3, .int (-1)), (2, .int 0), (0, .ref (qa 0)), (1, .int 1)]) hx hb dX12_judged_28 hl (by decide) rfl (fun ls hl => ?_)
  refine lv_iconst (v := 0) hx hb dX12_judged_30 (by decide) ?_
  refine lv_istore (lv' := [(5, .int 0), (4, .int (-1)), (3, .int (-1)), (2, .int 0), (0, .ref (qa 0)), (1, .int 1)]) hx hb dX12_judged_31 hl (by decide) rfl (fun ls hl => ?_)
  refine lv_iload hx hb dX12_judged_33 (lv_at hl 0 rfl) ?_
  refine lv_aload_n hx hb dX12_judged_35 rfl (lv_at hl 4 rfl) ?_
  refine va_get (ci := 9) (v := .int 0) (C := RX12) (T := TX12) (N := 16) hx hb hts inX12 hown hK hP 0 rfl rfl 13 (by decide) lf86 (fun _ h9 => h9) rfl dX12_judged_36 ?_
  refine lv_icmp_ge (tgt := 118) hx hb dX12_judged_39 (by decide) (fun cx8 => ?_) (fun h9 => absurd (by decide) h9)
  refine lv_iload_n hx hb dX12_judged_118 rfl (lv_at hl 5 rfl) ?_
  refine lv_iconst (v := 2) hx hb dX12_judged_119 (by decide) ?_
  refine lv_icmp_ne (tgt := 131) hx hb dX12_judged_120 (by decide) (fun cx9 => ?_) (fun h9 => absurd h9 (by decide))
  refine lv_iload_n hx hb dX12_judged_131 rfl (lv_at hl 5 rfl) ?_
  refine lv_if_ne (tgt := 139) hx hb dX12_judged_132 (by decide) (fun cx10 => ?_) (fun h9 => absurd h9 (by decide))
  refine lv_iload hx hb dX12_judged_139 (lv_at hl 1 rfl) ?_
  exact hret _ _ _ _ _ _ (-1) () (by decide) (by decide) dX12_judged_141 rfl rfl (hP.sub [] rfl) (hD.sub [] (by decide) rfl) hS
def pw_judged_2 : List Cond := .code yX12_judged cX12_judged 6 (some .int) :: ([.fieldLink RX12 58 "RiverVows" "net" "LRiverVows$Net;", .fieldLink RX12 19 "RiverVows" "country" "LRiverVows$Land;", .code yX5_clear cX5_clear 3 none, .fieldLink RX5 18 "RiverVows$Net" "land" "LRiverVows$Land;", .fieldLink RX5 9 "RiverVows$Net" "husband" "[I", .fieldLink RX5 15 "RiverVows$Net" "whole" "[I", .methodLink RX12 285 yX5_clear, .instanceMethod yX5_clear, .selects RX5 yX5_clear yX5_clear, .initialized RX5, .fieldLink RX12 86 "RiverVows" "lineCount" "I", .code yX5_weddings cX5_weddings 3 (some .int), .fieldLink RX5 26 "RiverVows$Land" "rivers" "I", .methodLink RX12 296 yX5_weddings, .instanceMethod yX5_weddings, .selects RX5 yX5_weddings yX5_weddings] ++ wsX120 ++ wsX50 ++ wsX30)
set_option maxRecDepth 20000 in
theorem pg_judged_2_0 : GoodIn pw_judged_2 (wsV RX12 285 RX5 yX5_clear pw_Net_clear) := goodIn_sub (by decide +kernel) (by decide +kernel)
set_option maxRecDepth 20000 in
theorem pg_judged_2_1 : GoodIn pw_judged_2 (wsV RX12 296 RX5 yX5_weddings pw_Net_weddings) := goodIn_sub (by decide +kernel) (by decide +kernel)
set_option maxHeartbeats 4000000 in
set_option maxRecDepth 100000 in
theorem c_judged_2 (l : Launch) (D : va_G) (k : Nat → ClassId) (sz : Nat) (qa : Nat → Nat)  : pMi l yX12_judged pw_judged_2 ({ frames := 1, cells := 0, slots := 0, locals := 22 }) D k [.ref (qa 0), .int 2] [((qa 0), .inr (9, [.ref (qa 1), .ref (qa 6), .ref (qa 9), .ref (qa 17), .ref (qa 18), .ref (qa 19), .ref (qa 20), .ref (qa 23), .ref (qa 25), .ref (qa 28), .ref (qa 29), .ref (qa 30), .ref (qa 31), .int 0, .int 0, .int 0])), ((qa 30), .inr (2, [.ref (qa 133), .ref (qa 134), .ref (qa 135), .ref (qa 136), .ref (qa 137), .ref (qa 138), .ref (qa 139), .int 0, .int 0, .int 0, .int 0, .int 0])), ((qa 20), .inr (4, [.ref (qa 21), .ref (qa 22), .ref (qa 30)])), ((qa 21), .inl (k 1, 6, .inl (fun _ => 0))), ((qa 22), .inl (k 1, 6, .inl (fun _ => 0)))] sz (S := Unit) (fun r u => r = 0) (fun u => []) 0 0 := by
  refine p_ofi (cc := cX12_judged) (maxL := 6) (rt := .int) (by decide) rfl (Nat.le_of_ble_eq_true rfl) ?_
  intro p e s m below meth c hx hb hml hown hts hK hN A hA hP hD hS Q hret ls hl
  have hl : lv_has ls 6 [(0, .ref (qa 0)), (1, .int 2)] := hl
  have lf58 := hts (.fieldLink RX12 58 "RiverVows" "net" "LRiverVows$Net;") (by decide +kernel)
  have inX12 : ∀ w ∈ wsX120, w ∈ pw_judged_2 := by decide +kernel
  have lf19 := hts (.fieldLink RX12 19 "RiverVows" "country" "LRiverVows$Land;") (by decide +kernel)
  have lf86 := hts (.fieldLink RX12 86 "RiverVows" "lineCount" "I") (by decide +kernel)
  refine lv_iload_n hx hb dX12_judged_0 rfl (lv_at hl 1 rfl) ?_
  refine lv_if_lt (tgt := 9) hx hb dX12_judged_1 (by decide) (fun h9 => absurd h9 (by decide)) (fun cx1 => ?_)
  refine lv_iload_n hx hb dX12_judged_4 rfl (lv_at hl 1 rfl) ?_
  refine lv_iconst (v := 2) hx hb dX12_judged_5 (by decide) ?_
  refine lv_icmp_le (tgt := 12) hx hb dX12_judged_6 (by decide) (fun cx2 => ?_) (fun h9 => absurd (by decide) h9)
  refine lv_aload_n hx hb dX12_judged_12 rfl (lv_at hl 0 rfl) ?_
  refine va_get (ci := 9) (v := .ref (qa 20)) (C := RX12) (T := TX12) (N := 16) hx hb hts inX12 hown hK hP 0 rfl rfl 6 (by decide) lf58 (fun _ h9 => h9) rfl dX12_judged_13 ?_
  refine lv_aload_n hx hb dX12_judged_16 rfl (lv_at hl 0 rfl) ?_
  refine va_get (ci := 9) (v := .ref (qa 30)) (C := RX12) (T := TX12) (N := 16) hx hb hts inX12 hown hK hP 0 rfl rfl 11 (by decide) lf19 (fun _ h9 => h9) rfl dX12_judged_17 ?_
  refine p_jv (wr := [((qa 0), .inr (9, [.ref (qa 1), .ref (qa 6), .ref (qa 9), .ref (qa 17), .ref (qa 18), .ref (qa 19), .ref (qa 20), .ref (qa 23), .ref (qa 25), .ref (qa 28), .ref (qa 29), .ref (qa 30), .ref (qa 31), .int 0, .int 0, .int 0])), ((qa 30), .inr (2, [.ref (qa 133), .ref (qa 134), .ref (qa 135), .ref (qa 136), .ref (qa 137), .ref (qa 138), .ref (qa 139), .int 0, .int 0, .int 0, .int 0, .int 0]))]) (va_runV (As := [.ref (qa 30)]) (rest := []) ⟨hx, hb, hml, hown, hts⟩ (c_Net_clear l D k _ (qa 20) (qa 21) (qa 22) (qa 30) (.ref (qa 30)) (fun _ => 0) (fun _ => 0)) (cwV 1 hts pg_judged_2_0 rfl rfl rfl (by decide +kernel) ⟨Nat.le_of_ble_eq_true rfl, Nat.le_of_ble_eq_true rfl⟩) (pV hK hN hP hD [2, 3, 4] rfl (by decide) rfl 2 rfl rfl) rfl rfl hl.1 rfl (lv_room (Nat.le_of_ble_eq_true rfl)) dX12_judged_20 ⟨by decide, by decide⟩) hP hD hS hA [2, 3, 4] [0, 1] rfl rfl (by decide) (by decide) (fun ux3 H locs wx4 hP hD hS => ?_)
  obtain ⟨f9_x6, g9_x7⟩ := ux3
  have hP : va_P D vwCl [((qa 0), .inr (9, [.ref (qa 1), .ref (qa 6), .ref (qa 9), .ref (qa 17), .ref (qa 18), .ref (qa 19), .ref (qa 20), .ref (qa 23), .ref (qa 25), .ref (qa 28), .ref (qa 29), .ref (qa 30), .ref (qa 31), .int 0, .int 0, .int 0])), ((qa 30), .inr (2, [.ref (qa 133), .ref (qa 134), .ref (qa 135), .ref (qa 136), .ref (qa 137), .ref (qa 138), .ref (qa 139), .int 0, .int 0, .int 0, .int 0, .int 0])), ((qa 20), .inr (4, [.ref (qa 21), .ref (qa 22), .ref (qa 30)])), ((qa 21), .inl (k 1, 6, .inl f9_x6)), ((qa 22), .inl (k 1, 6, .inl g9_x7))] H := hP
  have hD : va_D A [((qa 0), .inr (9, [.ref (qa 1), .ref (qa 6), .ref (qa 9), .ref (qa 17), .ref (qa 18), .ref (qa 19), .ref (qa 20), .ref (qa 23), .ref (qa 25), .ref (qa 28), .ref (qa 29), .ref (qa 30), .ref (qa 31), .int 0, .int 0, .int 0])), ((qa 30), .inr (2, [.ref (qa 133), .ref (qa 134), .ref (qa 135), .ref (qa 136), .ref (qa 137), .ref (qa 138), .ref (qa 139), .int 0, .int 0, .int 0, .int 0, .int 0])), ((qa 20), .inr (4, [.ref (qa 21), .ref (qa 22), .ref (qa 30)])), ((qa 21), .inl (k 1, 6, .inl f9_x6)), ((qa 22), .inl (k 1, 6, .inl g9_x7))] := hD
  refine lv_iconst (v := 0) hx hb dX12_judged_23 (by decide) ?_
  refine lv_istore_n (lv' := [(2, .int 0), (0, .ref (qa 0)), (1, .int 2)]) hx hb dX12_judged_24 rfl hl (by decide) rfl (fun ls hl => ?_)
  refine lv_iconst (v := (-1)) hx hb dX12_judged_25 (by decide) ?_
  refine lv_istore_n (lv' := [(3, .int (-1)), (2, .int 0), (0, .ref (qa 0)), (1, .int 2)]) hx hb dX12_judged_26 rfl hl (by decide) rfl (fun ls hl => ?_)
  refine lv_iconst (v := (-1)) hx hb dX12_judged_27 (by decide) ?_
  refine lv_istore (lv' := [(4, .int (-1)), (3, .int (-1)), (2, .int 0), (0, .ref (qa 0)), (1, .int 2)]) hx hb dX12_judged_28 hl (by decide) rfl (fun ls hl => ?_)
  refine lv_iconst (v := 0) hx hb dX12_judged_30 (by decide) ?_
  refine lv_istore (lv' := [(5, .int 0), (4, .int (-1)), (3, .int (-1)), (2, .int 0), (0, .ref (qa 0)), (1, .int 2)]) hx hb dX12_judged_31 hl (by decide) rfl (fun ls hl => ?_)
  refine lv_iload hx hb dX12_judged_33 (lv_at hl 0 rfl) ?_
  refine lv_aload_n hx hb dX12_judged_35 rfl (lv_at hl 4 rfl) ?_
  refine va_get (ci := 9) (v := .int 0) (C := RX12) (T := TX12) (N := 16) hx hb hts inX12 hown hK hP 0 rfl rfl 13 (by decide) lf86 (fun _ h9 => h9) rfl dX12_judged_36 ?_
  refine lv_icmp_ge (tgt := 118) hx hb dX12_judged_39 (by decide) (fun cx8 => ?_) (fun h9 => absurd (by decide) h9)
  refine lv_iload_n hx hb dX12_judged_118 rfl (lv_at hl 5 rfl) ?_
  refine lv_iconst (v := 2) hx hb dX12_judged_119 (by decide) ?_
  refine lv_icmp_ne (tgt := 131) hx hb dX12_judged_120 (by decide) (fun h9 => absurd (by decide) h9) (fun cx9 => ?_)
  refine lv_aload_n hx hb dX12_judged_123 rfl (lv_at hl 4 rfl) ?_
  refine va_get (ci := 9) (v := .ref (qa 20)) (C := RX12) (T := TX12) (N := 16) hx hb hts inX12 hown hK hP 0 rfl rfl 6 (by decide) lf58 (fun _ h9 => h9) rfl dX12_judged_124 ?_
  refine p_ji (wr := [((qa 0), .inr (9, [.ref (qa 1), .ref (qa 6), .ref (qa 9), .ref (qa 17), .ref (qa 18), .ref (qa 19), .ref (qa 20), .ref (qa 23), .ref (qa 25), .ref (qa 28), .ref (qa 29), .ref (qa 30), .ref (qa 31), .int 0, .int 0, .int 0])), ((qa 21), .inl (k 1, 6, .inl f9_x6)), ((qa 22), .inl (k 1, 6, .inl g9_x7))]) (va_runV (As := []) (rest := []) ⟨hx, hb, hml, hown, hts⟩ (c_Net_weddings l D k _ (qa 20) (qa 21) (qa 22) (qa 30) (qa 133) (qa 134) (qa 135) (qa 136) (qa 137) (qa 138) (qa 139)) (cwV 0 hts pg_judged_2_1 rfl rfl rfl (by decide +kernel) ⟨Nat.le_of_ble_eq_true rfl, Nat.le_of_ble_eq_true rfl⟩) (pV hK hN hP hD [2, 1] rfl (by decide) rfl 2 rfl rfl) rfl rfl hl.1 rfl (lv_room (Nat.le_of_ble_eq_true rfl)) dX12_judged_127 ⟨by decide, by decide⟩) hP hD hS hA [2, 1] [0, 3, 4] rfl rfl (by decide) (by decide) (fun rx12 ux10 H locs wx11 hP hD hS => ?_)
  have hx13 : rx12 = 0 := wx11
  subst hx13
  have hP : va_P D vwCl [((qa 0), .inr (9, [.ref (qa 1), .ref (qa 6), .ref (qa 9), .ref (qa 17), .ref (qa 18), .ref (qa 19), .ref (qa 20), .ref (qa 23), .ref (qa 25), .ref (qa 28), .ref (qa 29), .ref (qa 30), .ref (qa 31), .int 0, .int 0, .int 0])), ((qa 21), .inl (k 1, 6, .inl f9_x6)), ((qa 22), .inl (k 1, 6, .inl g9_x7)), ((qa 20), .inr (4, [.ref (qa 21), .ref (qa 22), .ref (qa 30)])), ((qa 30), .inr (2, [.ref (qa 133), .ref (qa 134), .ref (qa 135), .ref (qa 136), .ref (qa 137), .ref (qa 138), .ref (qa 139), .int 0, .int 0, .int 0, .int 0, .int 0]))] H := hP
  have hD : va_D A [((qa 0), .inr (9, [.ref (qa 1), .ref (qa 6), .ref (qa 9), .ref (qa 17), .ref (qa 18), .ref (qa 19), .ref (qa 20), .ref (qa 23), .ref (qa 25), .ref (qa 28), .ref (qa 29), .ref (qa 30), .ref (qa 31), .int 0, .int 0, .int 0])), ((qa 21), .inl (k 1, 6, .inl f9_x6)), ((qa 22), .inl (k 1, 6, .inl g9_x7)), ((qa 20), .inr (4, [.ref (qa 21), .ref (qa 22), .ref (qa 30)])), ((qa 30), .inr (2, [.ref (qa 133), .ref (qa 134), .ref (qa 135), .ref (qa 136), .ref (qa 137), .ref (qa 138), .ref (qa 139), .int 0, .int 0, .int 0, .int 0, .int 0]))] := hD
  exact hret _ _ _ _ _ _ 0 () (by decide) (by decide) dX12_judged_130 rfl rfl (hP.sub [] rfl) (hD.sub [] (by decide) rfl) hS
def pw_judged_lo : List Cond := .code yX12_judged cX12_judged 6 (some .int) :: ([])
set_option maxHeartbeats 4000000 in
set_option maxRecDepth 100000 in
theorem c_judged_lo (l : Launch) (D : va_G) (k : Nat → ClassId) (sz : Nat) (qa : Nat → Nat) (w : Int32) (hw : w < 0) : pMi l yX12_judged pw_judged_lo ({ frames := 0, cells := 0, slots := 0, locals := 0 }) D k [.ref (qa 0), .int w] [((qa 0), .inr (9, [.ref (qa 1), .ref (qa 6), .ref (qa 9), .ref (qa 17), .ref (qa 18), .ref (qa 19), .ref (qa 20), .ref (qa 23), .ref (qa 25), .ref (qa 28), .ref (qa 29), .ref (qa 30), .ref (qa 31), .int 0, .int 0, .int 0])), ((qa 30), .inr (2, [.ref (qa 133), .ref (qa 134), .ref (qa 135), .ref (qa 136), .ref (qa 137), .ref (qa 138), .ref (qa 139), .int 0, .int 0, .int 0, .int 0, .int 0])), ((qa 20), .inr (4, [.ref (qa 21), .ref (qa 22), .ref (qa 30)])), ((qa 21), .inl (k 1, 6, .inl (fun _ => 0))), ((qa 22), .inl (k 1, 6, .inl (fun _ => 0)))] sz (S := Unit) (fun r u => r = (-2)) (fun u => []) 0 0 := by
  refine p_ofi (cc := cX12_judged) (maxL := 6) (rt := .int) (by decide) rfl (Nat.le_of_ble_eq_true rfl) ?_
  intro p e s m below meth c hx hb hml hown hts hK hN A hA hP hD hS Q hret ls hl
  have hl : lv_has ls 6 [(0, .ref (qa 0)), (1, .int w)] := hl
  refine lv_iload_n hx hb dX12_judged_0 rfl (lv_at hl 1 rfl) ?_
  refine lv_if_lt (tgt := 9) hx hb dX12_judged_1 (by decide) (fun cx1 => ?_) (fun h9 => absurd hw h9)
  refine lv_bipush (v := (-2)) hx hb dX12_judged_9 (by decide) ?_
  exact hret _ _ _ _ _ _ (-2) () (by decide) (by decide) dX12_judged_11 rfl rfl (hP.sub [] rfl) (hD.sub [] (by decide) rfl) hS
def pw_judged_hi : List Cond := .code yX12_judged cX12_judged 6 (some .int) :: ([])
set_option maxHeartbeats 4000000 in
set_option maxRecDepth 100000 in
theorem c_judged_hi (l : Launch) (D : va_G) (k : Nat → ClassId) (sz : Nat) (qa : Nat → Nat) (w : Int32) (hw : 2 < w) : pMi l yX12_judged pw_judged_hi ({ frames := 0, cells := 0, slots := 0, locals := 0 }) D k [.ref (qa 0), .int w] [((qa 0), .inr (9, [.ref (qa 1), .ref (qa 6), .ref (qa 9), .ref (qa 17), .ref (qa 18), .ref (qa 19), .ref (qa 20), .ref (qa 23), .ref (qa 25), .ref (qa 28), .ref (qa 29), .ref (qa 30), .ref (qa 31), .int 0, .int 0, .int 0])), ((qa 30), .inr (2, [.ref (qa 133), .ref (qa 134), .ref (qa 135), .ref (qa 136), .ref (qa 137), .ref (qa 138), .ref (qa 139), .int 0, .int 0, .int 0, .int 0, .int 0])), ((qa 20), .inr (4, [.ref (qa 21), .ref (qa 22), .ref (qa 30)])), ((qa 21), .inl (k 1, 6, .inl (fun _ => 0))), ((qa 22), .inl (k 1, 6, .inl (fun _ => 0)))] sz (S := Unit) (fun r u => r = (-2)) (fun u => []) 0 0 := by
  refine p_ofi (cc := cX12_judged) (maxL := 6) (rt := .int) (by decide) rfl (Nat.le_of_ble_eq_true rfl) ?_
  intro p e s m below meth c hx hb hml hown hts hK hN A hA hP hD hS Q hret ls hl
  have hl : lv_has ls 6 [(0, .ref (qa 0)), (1, .int w)] := hl
  refine lv_iload_n hx hb dX12_judged_0 rfl (lv_at hl 1 rfl) ?_
  refine lv_if_lt (tgt := 9) hx hb dX12_judged_1 (by decide) (fun h9 => absurd h9 (show ¬ w < 0 by revert hw; simp only [Int32.lt_iff_toInt_lt, Int32.le_iff_toInt_le, ← Int32.toInt_inj, (by decide : (0 : Int32).toInt = 0), (by decide : (2 : Int32).toInt = 2)]; omega)) (fun cx1 => ?_)
  refine lv_iload_n hx hb dX12_judged_4 rfl (lv_at hl 1 rfl) ?_
  refine lv_iconst (v := 2) hx hb dX12_judged_5 (by decide) ?_
  refine lv_icmp_le (tgt := 12) hx hb dX12_judged_6 (by decide) (fun h9 => absurd h9 (show ¬ w ≤ 2 by revert hw; simp only [Int32.lt_iff_toInt_lt, Int32.le_iff_toInt_le, ← Int32.toInt_inj, (by decide : (2 : Int32).toInt = 2)]; omega)) (fun cx2 => ?_)
  refine lv_bipush (v := (-2)) hx hb dX12_judged_9 (by decide) ?_
  exact hret _ _ _ _ _ _ (-2) () (by decide) (by decide) dX12_judged_11 rfl rfl (hP.sub [] rfl) (hD.sub [] (by decide) rfl) hS
def pw_count_0 : List Cond := .code yX12_count cX12_count 2 (some .int) :: ([.fieldLink RX12 19 "RiverVows" "country" "LRiverVows$Land;", .fieldLink RX12 151 "RiverVows$Land" "rivers" "I"] ++ wsX120 ++ wsX30)
set_option maxHeartbeats 4000000 in
set_option maxRecDepth 100000 in
theorem c_count_0 (l : Launch) (D : va_G) (k : Nat → ClassId) (sz : Nat) (qa : Nat → Nat)  : pMi l yX12_count pw_count_0 ({ frames := 0, cells := 0, slots := 0, locals := 0 }) D k [.ref (qa 0), .int 0] [((qa 0), .inr (9, [.ref (qa 1), .ref (qa 6), .ref (qa 9), .ref (qa 17), .ref (qa 18), .ref (qa 19), .ref (qa 20), .ref (qa 23), .ref (qa 25), .ref (qa 28), .ref (qa 29), .ref (qa 30), .ref (qa 31), .int 0, .int 0, .int 0])), ((qa 9), .inr (8, [.ref (qa 10), .ref (qa 11), .ref (qa 12), .ref (qa 13), .ref (qa 14), .ref (qa 15), .ref (qa 16), .int 0, .int (-1), .int 0, .int 0])), ((qa 30), .inr (2, [.ref (qa 133), .ref (qa 134), .ref (qa 135), .ref (qa 136), .ref (qa 137), .ref (qa 138), .ref (qa 139), .int 0, .int 0, .int 0, .int 0, .int 0])), ((qa 20), .inr (4, [.ref (qa 21), .ref (qa 22), .ref (qa 30)])), ((qa 21), .inl (k 1, 6, .inl (fun _ => 0))), ((qa 22), .inl (k 1, 6, .inl (fun _ => 0))), ((qa 1), .inr (7, [.ref (qa 2), .ref (qa 3), .ref (qa 4), .ref (qa 5), .int 0, .int 0, .int 0, .int 0, .int 0, .int 0, .long 0, .null]))] sz (S := Unit) (fun r u => r = 0) (fun u => []) 0 0 := by
  refine p_ofi (cc := cX12_count) (maxL := 2) (rt := .int) (by decide) rfl (Nat.le_of_ble_eq_true rfl) ?_
  intro p e s m below meth c hx hb hml hown hts hK hN A hA hP hD hS Q hret ls hl
  have hl : lv_has ls 2 [(0, .ref (qa 0)), (1, .int 0)] := hl
  have lf19 := hts (.fieldLink RX12 19 "RiverVows" "country" "LRiverVows$Land;") (by decide +kernel)
  have inX12 : ∀ w ∈ wsX120, w ∈ pw_count_0 := by decide +kernel
  have lf151 := hts (.fieldLink RX12 151 "RiverVows$Land" "rivers" "I") (by decide +kernel)
  have inX3 : ∀ w ∈ wsX30, w ∈ pw_count_0 := by decide +kernel
  refine lv_iload_n hx hb dX12_count_0 rfl (lv_at hl 1 rfl) ?_
  refine lv_tableIn (tgt := 56) hx hb dX12_count_1 (by decide) (by decide) (by rfl) (by decide) ?_
  refine lv_aload_n hx hb dX12_count_56 rfl (lv_at hl 0 rfl) ?_
  refine va_get (ci := 9) (v := .ref (qa 30)) (C := RX12) (T := TX12) (N := 16) hx hb hts inX12 hown hK hP 0 rfl rfl 11 (by decide) lf19 (fun _ h9 => h9) rfl dX12_count_57 ?_
  refine va_get (ci := 2) (v := .int 0) (C := RX3) (T := TX3) (N := 12) hx hb hts inX3 hown hK hP 2 rfl rfl 7 (by decide) lf151 (fun _ h9 => h9) rfl dX12_count_60 ?_
  exact hret _ _ _ _ _ _ 0 () (by decide) (by decide) dX12_count_63 rfl rfl (hP.sub [] rfl) (hD.sub [] (by decide) rfl) hS
def pw_count_1 : List Cond := .code yX12_count cX12_count 2 (some .int) :: ([.fieldLink RX12 19 "RiverVows" "country" "LRiverVows$Land;", .fieldLink RX12 423 "RiverVows$Land" "ranges" "I"] ++ wsX120 ++ wsX30)
set_option maxHeartbeats 4000000 in
set_option maxRecDepth 100000 in
theorem c_count_1 (l : Launch) (D : va_G) (k : Nat → ClassId) (sz : Nat) (qa : Nat → Nat)  : pMi l yX12_count pw_count_1 ({ frames := 0, cells := 0, slots := 0, locals := 0 }) D k [.ref (qa 0), .int 1] [((qa 0), .inr (9, [.ref (qa 1), .ref (qa 6), .ref (qa 9), .ref (qa 17), .ref (qa 18), .ref (qa 19), .ref (qa 20), .ref (qa 23), .ref (qa 25), .ref (qa 28), .ref (qa 29), .ref (qa 30), .ref (qa 31), .int 0, .int 0, .int 0])), ((qa 9), .inr (8, [.ref (qa 10), .ref (qa 11), .ref (qa 12), .ref (qa 13), .ref (qa 14), .ref (qa 15), .ref (qa 16), .int 0, .int (-1), .int 0, .int 0])), ((qa 30), .inr (2, [.ref (qa 133), .ref (qa 134), .ref (qa 135), .ref (qa 136), .ref (qa 137), .ref (qa 138), .ref (qa 139), .int 0, .int 0, .int 0, .int 0, .int 0])), ((qa 20), .inr (4, [.ref (qa 21), .ref (qa 22), .ref (qa 30)])), ((qa 21), .inl (k 1, 6, .inl (fun _ => 0))), ((qa 22), .inl (k 1, 6, .inl (fun _ => 0))), ((qa 1), .inr (7, [.ref (qa 2), .ref (qa 3), .ref (qa 4), .ref (qa 5), .int 0, .int 0, .int 0, .int 0, .int 0, .int 0, .long 0, .null]))] sz (S := Unit) (fun r u => r = 0) (fun u => []) 0 0 := by
  refine p_ofi (cc := cX12_count) (maxL := 2) (rt := .int) (by decide) rfl (Nat.le_of_ble_eq_true rfl) ?_
  intro p e s m below meth c hx hb hml hown hts hK hN A hA hP hD hS Q hret ls hl
  have hl : lv_has ls 2 [(0, .ref (qa 0)), (1, .int 1)] := hl
  have lf19 := hts (.fieldLink RX12 19 "RiverVows" "country" "LRiverVows$Land;") (by decide +kernel)
  have inX12 : ∀ w ∈ wsX120, w ∈ pw_count_1 := by decide +kernel
  have lf423 := hts (.fieldLink RX12 423 "RiverVows$Land" "ranges" "I") (by decide +kernel)
  have inX3 : ∀ w ∈ wsX30, w ∈ pw_count_1 := by decide +kernel
  refine lv_iload_n hx hb dX12_count_0 rfl (lv_at hl 1 rfl) ?_
  refine lv_tableIn (tgt := 64) hx hb dX12_count_1 (by decide) (by decide) (by rfl) (by decide) ?_
  refine lv_aload_n hx hb dX12_count_64 rfl (lv_at hl 0 rfl) ?_
  refine va_get (ci := 9) (v := .ref (qa 30)) (C := RX12) (T := TX12) (N := 16) hx hb hts inX12 hown hK hP 0 rfl rfl 11 (by decide) lf19 (fun _ h9 => h9) rfl dX12_count_65 ?_
  refine va_get (ci := 2) (v := .int 0) (C := RX3) (T := TX3) (N := 12) hx hb hts inX3 hown hK hP 2 rfl rfl 8 (by decide) lf423 (fun _ h9 => h9) rfl dX12_count_68 ?_
  exact hret _ _ _ _ _ _ 0 () (by decide) (by decide) dX12_count_71 rfl rfl (hP.sub [] rfl) (hD.sub [] (by decide) rfl) hS
def pw_count_2 : List Cond := .code yX12_count cX12_count 2 (some .int) :: ([.fieldLink RX12 38 "RiverVows" "now" "LRiverVows$Standing;", .fieldLink RX12 167 "RiverVows$Standing" "passed" "I"] ++ wsX120 ++ wsX90)
set_option maxHeartbeats 4000000 in
set_option maxRecDepth 100000 in
theorem c_count_2 (l : Launch) (D : va_G) (k : Nat → ClassId) (sz : Nat) (qa : Nat → Nat)  : pMi l yX12_count pw_count_2 ({ frames := 0, cells := 0, slots := 0, locals := 0 }) D k [.ref (qa 0), .int 2] [((qa 0), .inr (9, [.ref (qa 1), .ref (qa 6), .ref (qa 9), .ref (qa 17), .ref (qa 18), .ref (qa 19), .ref (qa 20), .ref (qa 23), .ref (qa 25), .ref (qa 28), .ref (qa 29), .ref (qa 30), .ref (qa 31), .int 0, .int 0, .int 0])), ((qa 9), .inr (8, [.ref (qa 10), .ref (qa 11), .ref (qa 12), .ref (qa 13), .ref (qa 14), .ref (qa 15), .ref (qa 16), .int 0, .int (-1), .int 0, .int 0])), ((qa 30), .inr (2, [.ref (qa 133), .ref (qa 134), .ref (qa 135), .ref (qa 136), .ref (qa 137), .ref (qa 138), .ref (qa 139), .int 0, .int 0, .int 0, .int 0, .int 0])), ((qa 20), .inr (4, [.ref (qa 21), .ref (qa 22), .ref (qa 30)])), ((qa 21), .inl (k 1, 6, .inl (fun _ => 0))), ((qa 22), .inl (k 1, 6, .inl (fun _ => 0))), ((qa 1), .inr (7, [.ref (qa 2), .ref (qa 3), .ref (qa 4), .ref (qa 5), .int 0, .int 0, .int 0, .int 0, .int 0, .int 0, .long 0, .null]))] sz (S := Unit) (fun r u => r = 0) (fun u => []) 0 0 := by
  refine p_ofi (cc := cX12_count) (maxL := 2) (rt := .int) (by decide) rfl (Nat.le_of_ble_eq_true rfl) ?_
  intro p e s m below meth c hx hb hml hown hts hK hN A hA hP hD hS Q hret ls hl
  have hl : lv_has ls 2 [(0, .ref (qa 0)), (1, .int 2)] := hl
  have lf38 := hts (.fieldLink RX12 38 "RiverVows" "now" "LRiverVows$Standing;") (by decide +kernel)
  have inX12 : ∀ w ∈ wsX120, w ∈ pw_count_2 := by decide +kernel
  have lf167 := hts (.fieldLink RX12 167 "RiverVows$Standing" "passed" "I") (by decide +kernel)
  have inX9 : ∀ w ∈ wsX90, w ∈ pw_count_2 := by decide +kernel
  refine lv_iload_n hx hb dX12_count_0 rfl (lv_at hl 1 rfl) ?_
  refine lv_tableIn (tgt := 72) hx hb dX12_count_1 (by decide) (by decide) (by rfl) (by decide) ?_
  refine lv_aload_n hx hb dX12_count_72 rfl (lv_at hl 0 rfl) ?_
  refine va_get (ci := 9) (v := .ref (qa 9)) (C := RX12) (T := TX12) (N := 16) hx hb hts inX12 hown hK hP 0 rfl rfl 2 (by decide) lf38 (fun _ h9 => h9) rfl dX12_count_73 ?_
  refine va_get (ci := 8) (v := .int 0) (C := RX9) (T := TX9) (N := 11) hx hb hts inX9 hown hK hP 1 rfl rfl 7 (by decide) lf167 (fun _ h9 => h9) rfl dX12_count_76 ?_
  exact hret _ _ _ _ _ _ 0 () (by decide) (by decide) dX12_count_79 rfl rfl (hP.sub [] rfl) (hD.sub [] (by decide) rfl) hS
def pw_count_3 : List Cond := .code yX12_count cX12_count 2 (some .int) :: ([.code yX12_netNow cX12_netNow 1 (some (.object "RiverVows$Net")), .fieldLink RX12 58 "RiverVows" "net" "LRiverVows$Net;", .fieldLink RX12 19 "RiverVows" "country" "LRiverVows$Land;", .fieldLink RX12 38 "RiverVows" "now" "LRiverVows$Standing;", .fieldLink RX12 170 "RiverVows$Standing" "husband" "[I", .code yX5_lay cX5_lay 4 none, .code yX5_clear cX5_clear 3 none, .fieldLink RX5 18 "RiverVows$Net" "land" "LRiverVows$Land;", .fieldLink RX5 9 "RiverVows$Net" "husband" "[I", .fieldLink RX5 15 "RiverVows$Net" "whole" "[I", .methodLink RX5 22 yX5_clear, .instanceMethod yX5_clear, .selects RX5 yX5_clear yX5_clear, .initialized RX5, .fieldLink RX5 26 "RiverVows$Land" "rivers" "I", .methodLink RX12 173 yX5_lay, .instanceMethod yX5_lay, .selects RX5 yX5_lay yX5_lay, .methodLink RX12 177 yX12_netNow, .instanceMethod yX12_netNow, .selects RX12 yX12_netNow yX12_netNow, .initialized RX12, .code yX5_weddings cX5_weddings 3 (some .int), .methodLink RX12 296 yX5_weddings, .instanceMethod yX5_weddings, .selects RX5 yX5_weddings yX5_weddings] ++ wsX120 ++ wsX90 ++ wsX50 ++ wsX30)
set_option maxRecDepth 20000 in
theorem pg_count_3_0 : GoodIn pw_count_3 (wsV RX12 177 RX12 yX12_netNow pw_netNow) := goodIn_sub (by decide +kernel) (by decide +kernel)
set_option maxRecDepth 20000 in
theorem pg_count_3_1 : GoodIn pw_count_3 (wsV RX12 296 RX5 yX5_weddings pw_Net_weddings) := goodIn_sub (by decide +kernel) (by decide +kernel)
set_option maxHeartbeats 4000000 in
set_option maxRecDepth 100000 in
theorem c_count_3 (l : Launch) (D : va_G) (k : Nat → ClassId) (sz : Nat) (qa : Nat → Nat)  : pMi l yX12_count pw_count_3 ({ frames := 3, cells := 0, slots := 0, locals := 65 }) D k [.ref (qa 0), .int 3] [((qa 0), .inr (9, [.ref (qa 1), .ref (qa 6), .ref (qa 9), .ref (qa 17), .ref (qa 18), .ref (qa 19), .ref (qa 20), .ref (qa 23), .ref (qa 25), .ref (qa 28), .ref (qa 29), .ref (qa 30), .ref (qa 31), .int 0, .int 0, .int 0])), ((qa 9), .inr (8, [.ref (qa 10), .ref (qa 11), .ref (qa 12), .ref (qa 13), .ref (qa 14), .ref (qa 15), .ref (qa 16), .int 0, .int (-1), .int 0, .int 0])), ((qa 30), .inr (2, [.ref (qa 133), .ref (qa 134), .ref (qa 135), .ref (qa 136), .ref (qa 137), .ref (qa 138), .ref (qa 139), .int 0, .int 0, .int 0, .int 0, .int 0])), ((qa 20), .inr (4, [.ref (qa 21), .ref (qa 22), .ref (qa 30)])), ((qa 21), .inl (k 1, 6, .inl (fun _ => 0))), ((qa 22), .inl (k 1, 6, .inl (fun _ => 0))), ((qa 1), .inr (7, [.ref (qa 2), .ref (qa 3), .ref (qa 4), .ref (qa 5), .int 0, .int 0, .int 0, .int 0, .int 0, .int 0, .long 0, .null]))] sz (S := Unit) (fun r u => r = 0) (fun u => []) 0 0 := by
  refine p_ofi (cc := cX12_count) (maxL := 2) (rt := .int) (by decide) rfl (Nat.le_of_ble_eq_true rfl) ?_
  intro p e s m below meth c hx hb hml hown hts hK hN A hA hP hD hS Q hret ls hl
  have hl : lv_has ls 2 [(0, .ref (qa 0)), (1, .int 3)] := hl
  refine lv_iload_n hx hb dX12_count_0 rfl (lv_at hl 1 rfl) ?_
  refine lv_tableIn (tgt := 80) hx hb dX12_count_1 (by decide) (by decide) (by rfl) (by decide) ?_
  refine lv_aload_n hx hb dX12_count_80 rfl (lv_at hl 0 rfl) ?_
  refine p_jr (wr := [((qa 1), .inr (7, [.ref (qa 2), .ref (qa 3), .ref (qa 4), .ref (qa 5), .int 0, .int 0, .int 0, .int 0, .int 0, .int 0, .long 0, .null]))]) (va_runV (As := []) (rest := []) ⟨hx, hb, hml, hown, hts⟩ (c_netNow l D k _ qa (fun _ => 0) (fun _ => 0)) (cwV 0 hts pg_count_3_0 rfl rfl rfl (by decide +kernel) ⟨Nat.le_of_ble_eq_true rfl, Nat.le_of_ble_eq_true rfl⟩) (pV hK hN hP hD [0, 1, 2, 3, 4, 5] rfl (by decide) rfl 0 rfl rfl) rfl rfl hl.1 rfl (lv_room (Nat.le_of_ble_eq_true rfl)) dX12_count_81 ⟨by decide, by decide⟩) hP hD hS hA [0, 1, 2, 3, 4, 5] [6] rfl rfl (by decide) (by decide) (fun ux1 H locs wx2 hP hD hS => ?_)
  obtain ⟨f9_x4, g9_x5⟩ := ux1
  have hP : va_P D vwCl [((qa 1), .inr (7, [.ref (qa 2), .ref (qa 3), .ref (qa 4), .ref (qa 5), .int 0, .int 0, .int 0, .int 0, .int 0, .int 0, .long 0, .null])), ((qa 0), .inr (9, [.ref (qa 1), .ref (qa 6), .ref (qa 9), .ref (qa 17), .ref (qa 18), .ref (qa 19), .ref (qa 20), .ref (qa 23), .ref (qa 25), .ref (qa 28), .ref (qa 29), .ref (qa 30), .ref (qa 31), .int 0, .int 0, .int 0])), ((qa 9), .inr (8, [.ref (qa 10), .ref (qa 11), .ref (qa 12), .ref (qa 13), .ref (qa 14), .ref (qa 15), .ref (qa 16), .int 0, .int (-1), .int 0, .int 0])), ((qa 30), .inr (2, [.ref (qa 133), .ref (qa 134), .ref (qa 135), .ref (qa 136), .ref (qa 137), .ref (qa 138), .ref (qa 139), .int 0, .int 0, .int 0, .int 0, .int 0])), ((qa 20), .inr (4, [.ref (qa 21), .ref (qa 22), .ref (qa 30)])), ((qa 21), .inl (k 1, 6, .inl f9_x4)), ((qa 22), .inl (k 1, 6, .inl g9_x5))] H := hP
  have hD : va_D A [((qa 1), .inr (7, [.ref (qa 2), .ref (qa 3), .ref (qa 4), .ref (qa 5), .int 0, .int 0, .int 0, .int 0, .int 0, .int 0, .long 0, .null])), ((qa 0), .inr (9, [.ref (qa 1), .ref (qa 6), .ref (qa 9), .ref (qa 17), .ref (qa 18), .ref (qa 19), .ref (qa 20), .ref (qa 23), .ref (qa 25), .ref (qa 28), .ref (qa 29), .ref (qa 30), .ref (qa 31), .int 0, .int 0, .int 0])), ((qa 9), .inr (8, [.ref (qa 10), .ref (qa 11), .ref (qa 12), .ref (qa 13), .ref (qa 14), .ref (qa 15), .ref (qa 16), .int 0, .int (-1), .int 0, .int 0])), ((qa 30), .inr (2, [.ref (qa 133), .ref (qa 134), .ref (qa 135), .ref (qa 136), .ref (qa 137), .ref (qa 138), .ref (qa 139), .int 0, .int 0, .int 0, .int 0, .int 0])), ((qa 20), .inr (4, [.ref (qa 21), .ref (qa 22), .ref (qa 30)])), ((qa 21), .inl (k 1, 6, .inl f9_x4)), ((qa 22), .inl (k 1, 6, .inl g9_x5))] := hD
  refine p_ji (wr := [((qa 1), .inr (7, [.ref (qa 2), .ref (qa 3), .ref (qa 4), .ref (qa 5), .int 0, .int 0, .int 0, .int 0, .int 0, .int 0, .long 0, .null])), ((qa 0), .inr (9, [.ref (qa 1), .ref (qa 6), .ref (qa 9), .ref (qa 17), .ref (qa 18), .ref (qa 19), .ref (qa 20), .ref (qa 23), .ref (qa 25), .ref (qa 28), .ref (qa 29), .ref (qa 30), .ref (qa 31), .int 0, .int 0, .int 0])), ((qa 9), .inr (8, [.ref (qa 10), .ref (qa 11), .ref (qa 12), .ref (qa 13), .ref (qa 14), .ref (qa 15), .ref (qa 16), .int 0, .int (-1), .int 0, .int 0])), ((qa 21), .inl (k 1, 6, .inl f9_x4)), ((qa 22), .inl (k 1, 6, .inl g9_x5))]) (va_runV (As := []) (rest := []) ⟨hx, hb, hml, hown, hts⟩ (c_Net_weddings l D k _ (qa 20) (qa 21) (qa 22) (qa 30) (qa 133) (qa 134) (qa 135) (qa 136) (qa 137) (qa 138) (qa 139)) (cwV 0 hts pg_count_3_1 rfl rfl rfl (by decide +kernel) ⟨Nat.le_of_ble_eq_true rfl, Nat.le_of_ble_eq_true rfl⟩) (pV hK hN hP hD [4, 3] rfl (by decide) rfl 4 rfl rfl) rfl rfl hl.1 rfl (lv_room (Nat.le_of_ble_eq_true rfl)) dX12_count_84 ⟨by decide, by decide⟩) hP hD hS hA [4, 3] [0, 1, 2, 5, 6] rfl rfl (by decide) (by decide) (fun rx8 ux6 H locs wx7 hP hD hS => ?_)
  have hx9 : rx8 = 0 := wx7
  subst hx9
  have hP : va_P D vwCl [((qa 1), .inr (7, [.ref (qa 2), .ref (qa 3), .ref (qa 4), .ref (qa 5), .int 0, .int 0, .int 0, .int 0, .int 0, .int 0, .long 0, .null])), ((qa 0), .inr (9, [.ref (qa 1), .ref (qa 6), .ref (qa 9), .ref (qa 17), .ref (qa 18), .ref (qa 19), .ref (qa 20), .ref (qa 23), .ref (qa 25), .ref (qa 28), .ref (qa 29), .ref (qa 30), .ref (qa 31), .int 0, .int 0, .int 0])), ((qa 9), .inr (8, [.ref (qa 10), .ref (qa 11), .ref (qa 12), .ref (qa 13), .ref (qa 14), .ref (qa 15), .ref (qa 16), .int 0, .int (-1), .int 0, .int 0])), ((qa 21), .inl (k 1, 6, .inl f9_x4)), ((qa 22), .inl (k 1, 6, .inl g9_x5)), ((qa 20), .inr (4, [.ref (qa 21), .ref (qa 22), .ref (qa 30)])), ((qa 30), .inr (2, [.ref (qa 133), .ref (qa 134), .ref (qa 135), .ref (qa 136), .ref (qa 137), .ref (qa 138), .ref (qa 139), .int 0, .int 0, .int 0, .int 0, .int 0]))] H := hP
  have hD : va_D A [((qa 1), .inr (7, [.ref (qa 2), .ref (qa 3), .ref (qa 4), .ref (qa 5), .int 0, .int 0, .int 0, .int 0, .int 0, .int 0, .long 0, .null])), ((qa 0), .inr (9, [.ref (qa 1), .ref (qa 6), .ref (qa 9), .ref (qa 17), .ref (qa 18), .ref (qa 19), .ref (qa 20), .ref (qa 23), .ref (qa 25), .ref (qa 28), .ref (qa 29), .ref (qa 30), .ref (qa 31), .int 0, .int 0, .int 0])), ((qa 9), .inr (8, [.ref (qa 10), .ref (qa 11), .ref (qa 12), .ref (qa 13), .ref (qa 14), .ref (qa 15), .ref (qa 16), .int 0, .int (-1), .int 0, .int 0])), ((qa 21), .inl (k 1, 6, .inl f9_x4)), ((qa 22), .inl (k 1, 6, .inl g9_x5)), ((qa 20), .inr (4, [.ref (qa 21), .ref (qa 22), .ref (qa 30)])), ((qa 30), .inr (2, [.ref (qa 133), .ref (qa 134), .ref (qa 135), .ref (qa 136), .ref (qa 137), .ref (qa 138), .ref (qa 139), .int 0, .int 0, .int 0, .int 0, .int 0]))] := hD
  exact hret _ _ _ _ _ _ 0 () (by decide) (by decide) dX12_count_87 rfl rfl (hP.sub [] rfl) (hD.sub [] (by decide) rfl) hS
def pw_count_4 : List Cond := .code yX12_count cX12_count 2 (some .int) :: ([.fieldLink RX12 86 "RiverVows" "lineCount" "I"] ++ wsX120)
set_option maxHeartbeats 4000000 in
set_option maxRecDepth 100000 in
theorem c_count_4 (l : Launch) (D : va_G) (k : Nat → ClassId) (sz : Nat) (qa : Nat → Nat)  : pMi l yX12_count pw_count_4 ({ frames := 0, cells := 0, slots := 0, locals := 0 }) D k [.ref (qa 0), .int 4] [((qa 0), .inr (9, [.ref (qa 1), .ref (qa 6), .ref (qa 9), .ref (qa 17), .ref (qa 18), .ref (qa 19), .ref (qa 20), .ref (qa 23), .ref (qa 25), .ref (qa 28), .ref (qa 29), .ref (qa 30), .ref (qa 31), .int 0, .int 0, .int 0])), ((qa 9), .inr (8, [.ref (qa 10), .ref (qa 11), .ref (qa 12), .ref (qa 13), .ref (qa 14), .ref (qa 15), .ref (qa 16), .int 0, .int (-1), .int 0, .int 0])), ((qa 30), .inr (2, [.ref (qa 133), .ref (qa 134), .ref (qa 135), .ref (qa 136), .ref (qa 137), .ref (qa 138), .ref (qa 139), .int 0, .int 0, .int 0, .int 0, .int 0])), ((qa 20), .inr (4, [.ref (qa 21), .ref (qa 22), .ref (qa 30)])), ((qa 21), .inl (k 1, 6, .inl (fun _ => 0))), ((qa 22), .inl (k 1, 6, .inl (fun _ => 0))), ((qa 1), .inr (7, [.ref (qa 2), .ref (qa 3), .ref (qa 4), .ref (qa 5), .int 0, .int 0, .int 0, .int 0, .int 0, .int 0, .long 0, .null]))] sz (S := Unit) (fun r u => r = 0) (fun u => []) 0 0 := by
  refine p_ofi (cc := cX12_count) (maxL := 2) (rt := .int) (by decide) rfl (Nat.le_of_ble_eq_true rfl) ?_
  intro p e s m below meth c hx hb hml hown hts hK hN A hA hP hD hS Q hret ls hl
  have hl : lv_has ls 2 [(0, .ref (qa 0)), (1, .int 4)] := hl
  have lf86 := hts (.fieldLink RX12 86 "RiverVows" "lineCount" "I") (by decide +kernel)
  have inX12 : ∀ w ∈ wsX120, w ∈ pw_count_4 := by decide +kernel
  refine lv_iload_n hx hb dX12_count_0 rfl (lv_at hl 1 rfl) ?_
  refine lv_tableIn (tgt := 88) hx hb dX12_count_1 (by decide) (by decide) (by rfl) (by decide) ?_
  refine lv_aload_n hx hb dX12_count_88 rfl (lv_at hl 0 rfl) ?_
  refine va_get (ci := 9) (v := .int 0) (C := RX12) (T := TX12) (N := 16) hx hb hts inX12 hown hK hP 0 rfl rfl 13 (by decide) lf86 (fun _ h9 => h9) rfl dX12_count_89 ?_
  exact hret _ _ _ _ _ _ 0 () (by decide) (by decide) dX12_count_92 rfl rfl (hP.sub [] rfl) (hD.sub [] (by decide) rfl) hS
def pw_count_5 : List Cond := .code yX12_count cX12_count 2 (some .int) :: ([.fieldLink RX12 38 "RiverVows" "now" "LRiverVows$Standing;", .fieldLink RX12 146 "RiverVows$Standing" "heirs" "I"] ++ wsX120 ++ wsX90)
set_option maxHeartbeats 4000000 in
set_option maxRecDepth 100000 in
theorem c_count_5 (l : Launch) (D : va_G) (k : Nat → ClassId) (sz : Nat) (qa : Nat → Nat)  : pMi l yX12_count pw_count_5 ({ frames := 0, cells := 0, slots := 0, locals := 0 }) D k [.ref (qa 0), .int 5] [((qa 0), .inr (9, [.ref (qa 1), .ref (qa 6), .ref (qa 9), .ref (qa 17), .ref (qa 18), .ref (qa 19), .ref (qa 20), .ref (qa 23), .ref (qa 25), .ref (qa 28), .ref (qa 29), .ref (qa 30), .ref (qa 31), .int 0, .int 0, .int 0])), ((qa 9), .inr (8, [.ref (qa 10), .ref (qa 11), .ref (qa 12), .ref (qa 13), .ref (qa 14), .ref (qa 15), .ref (qa 16), .int 0, .int (-1), .int 0, .int 0])), ((qa 30), .inr (2, [.ref (qa 133), .ref (qa 134), .ref (qa 135), .ref (qa 136), .ref (qa 137), .ref (qa 138), .ref (qa 139), .int 0, .int 0, .int 0, .int 0, .int 0])), ((qa 20), .inr (4, [.ref (qa 21), .ref (qa 22), .ref (qa 30)])), ((qa 21), .inl (k 1, 6, .inl (fun _ => 0))), ((qa 22), .inl (k 1, 6, .inl (fun _ => 0))), ((qa 1), .inr (7, [.ref (qa 2), .ref (qa 3), .ref (qa 4), .ref (qa 5), .int 0, .int 0, .int 0, .int 0, .int 0, .int 0, .long 0, .null]))] sz (S := Unit) (fun r u => r = (-1)) (fun u => []) 0 0 := by
  refine p_ofi (cc := cX12_count) (maxL := 2) (rt := .int) (by decide) rfl (Nat.le_of_ble_eq_true rfl) ?_
  intro p e s m below meth c hx hb hml hown hts hK hN A hA hP hD hS Q hret ls hl
  have hl : lv_has ls 2 [(0, .ref (qa 0)), (1, .int 5)] := hl
  have lf38 := hts (.fieldLink RX12 38 "RiverVows" "now" "LRiverVows$Standing;") (by decide +kernel)
  have inX12 : ∀ w ∈ wsX120, w ∈ pw_count_5 := by decide +kernel
  have lf146 := hts (.fieldLink RX12 146 "RiverVows$Standing" "heirs" "I") (by decide +kernel)
  have inX9 : ∀ w ∈ wsX90, w ∈ pw_count_5 := by decide +kernel
  refine lv_iload_n hx hb dX12_count_0 rfl (lv_at hl 1 rfl) ?_
  refine lv_tableIn (tgt := 93) hx hb dX12_count_1 (by decide) (by decide) (by rfl) (by decide) ?_
  refine lv_aload_n hx hb dX12_count_93 rfl (lv_at hl 0 rfl) ?_
  refine va_get (ci := 9) (v := .ref (qa 9)) (C := RX12) (T := TX12) (N := 16) hx hb hts inX12 hown hK hP 0 rfl rfl 2 (by decide) lf38 (fun _ h9 => h9) rfl dX12_count_94 ?_
  refine va_get (ci := 8) (v := .int (-1)) (C := RX9) (T := TX9) (N := 11) hx hb hts inX9 hown hK hP 1 rfl rfl 8 (by decide) lf146 (fun _ h9 => h9) rfl dX12_count_97 ?_
  exact hret _ _ _ _ _ _ (-1) () (by decide) (by decide) dX12_count_100 rfl rfl (hP.sub [] rfl) (hD.sub [] (by decide) rfl) hS
def pw_count_6 : List Cond := .code yX12_count cX12_count 2 (some .int) :: ([.fieldLink RX12 38 "RiverVows" "now" "LRiverVows$Standing;", .fieldLink RX12 373 "RiverVows$Standing" "told" "I"] ++ wsX120 ++ wsX90)
set_option maxHeartbeats 4000000 in
set_option maxRecDepth 100000 in
theorem c_count_6 (l : Launch) (D : va_G) (k : Nat → ClassId) (sz : Nat) (qa : Nat → Nat)  : pMi l yX12_count pw_count_6 ({ frames := 0, cells := 0, slots := 0, locals := 0 }) D k [.ref (qa 0), .int 6] [((qa 0), .inr (9, [.ref (qa 1), .ref (qa 6), .ref (qa 9), .ref (qa 17), .ref (qa 18), .ref (qa 19), .ref (qa 20), .ref (qa 23), .ref (qa 25), .ref (qa 28), .ref (qa 29), .ref (qa 30), .ref (qa 31), .int 0, .int 0, .int 0])), ((qa 9), .inr (8, [.ref (qa 10), .ref (qa 11), .ref (qa 12), .ref (qa 13), .ref (qa 14), .ref (qa 15), .ref (qa 16), .int 0, .int (-1), .int 0, .int 0])), ((qa 30), .inr (2, [.ref (qa 133), .ref (qa 134), .ref (qa 135), .ref (qa 136), .ref (qa 137), .ref (qa 138), .ref (qa 139), .int 0, .int 0, .int 0, .int 0, .int 0])), ((qa 20), .inr (4, [.ref (qa 21), .ref (qa 22), .ref (qa 30)])), ((qa 21), .inl (k 1, 6, .inl (fun _ => 0))), ((qa 22), .inl (k 1, 6, .inl (fun _ => 0))), ((qa 1), .inr (7, [.ref (qa 2), .ref (qa 3), .ref (qa 4), .ref (qa 5), .int 0, .int 0, .int 0, .int 0, .int 0, .int 0, .long 0, .null]))] sz (S := Unit) (fun r u => r = 0) (fun u => []) 0 0 := by
  refine p_ofi (cc := cX12_count) (maxL := 2) (rt := .int) (by decide) rfl (Nat.le_of_ble_eq_true rfl) ?_
  intro p e s m below meth c hx hb hml hown hts hK hN A hA hP hD hS Q hret ls hl
  have hl : lv_has ls 2 [(0, .ref (qa 0)), (1, .int 6)] := hl
  have lf38 := hts (.fieldLink RX12 38 "RiverVows" "now" "LRiverVows$Standing;") (by decide +kernel)
  have inX12 : ∀ w ∈ wsX120, w ∈ pw_count_6 := by decide +kernel
  have lf373 := hts (.fieldLink RX12 373 "RiverVows$Standing" "told" "I") (by decide +kernel)
  have inX9 : ∀ w ∈ wsX90, w ∈ pw_count_6 := by decide +kernel
  refine lv_iload_n hx hb dX12_count_0 rfl (lv_at hl 1 rfl) ?_
  refine lv_tableIn (tgt := 101) hx hb dX12_count_1 (by decide) (by decide) (by rfl) (by decide) ?_
  refine lv_aload_n hx hb dX12_count_101 rfl (lv_at hl 0 rfl) ?_
  refine va_get (ci := 9) (v := .ref (qa 9)) (C := RX12) (T := TX12) (N := 16) hx hb hts inX12 hown hK hP 0 rfl rfl 2 (by decide) lf38 (fun _ h9 => h9) rfl dX12_count_102 ?_
  refine va_get (ci := 8) (v := .int 0) (C := RX9) (T := TX9) (N := 11) hx hb hts inX9 hown hK hP 1 rfl rfl 9 (by decide) lf373 (fun _ h9 => h9) rfl dX12_count_105 ?_
  exact hret _ _ _ _ _ _ 0 () (by decide) (by decide) dX12_count_108 rfl rfl (hP.sub [] rfl) (hD.sub [] (by decide) rfl) hS
def pw_count_7 : List Cond := .code yX12_count cX12_count 2 (some .int) :: ([.fieldLink RX12 19 "RiverVows" "country" "LRiverVows$Land;", .fieldLink RX12 426 "RiverVows$Land" "kin" "I"] ++ wsX120 ++ wsX30)
set_option maxHeartbeats 4000000 in
set_option maxRecDepth 100000 in
theorem c_count_7 (l : Launch) (D : va_G) (k : Nat → ClassId) (sz : Nat) (qa : Nat → Nat)  : pMi l yX12_count pw_count_7 ({ frames := 0, cells := 0, slots := 0, locals := 0 }) D k [.ref (qa 0), .int 7] [((qa 0), .inr (9, [.ref (qa 1), .ref (qa 6), .ref (qa 9), .ref (qa 17), .ref (qa 18), .ref (qa 19), .ref (qa 20), .ref (qa 23), .ref (qa 25), .ref (qa 28), .ref (qa 29), .ref (qa 30), .ref (qa 31), .int 0, .int 0, .int 0])), ((qa 9), .inr (8, [.ref (qa 10), .ref (qa 11), .ref (qa 12), .ref (qa 13), .ref (qa 14), .ref (qa 15), .ref (qa 16), .int 0, .int (-1), .int 0, .int 0])), ((qa 30), .inr (2, [.ref (qa 133), .ref (qa 134), .ref (qa 135), .ref (qa 136), .ref (qa 137), .ref (qa 138), .ref (qa 139), .int 0, .int 0, .int 0, .int 0, .int 0])), ((qa 20), .inr (4, [.ref (qa 21), .ref (qa 22), .ref (qa 30)])), ((qa 21), .inl (k 1, 6, .inl (fun _ => 0))), ((qa 22), .inl (k 1, 6, .inl (fun _ => 0))), ((qa 1), .inr (7, [.ref (qa 2), .ref (qa 3), .ref (qa 4), .ref (qa 5), .int 0, .int 0, .int 0, .int 0, .int 0, .int 0, .long 0, .null]))] sz (S := Unit) (fun r u => r = 0) (fun u => []) 0 0 := by
  refine p_ofi (cc := cX12_count) (maxL := 2) (rt := .int) (by decide) rfl (Nat.le_of_ble_eq_true rfl) ?_
  intro p e s m below meth c hx hb hml hown hts hK hN A hA hP hD hS Q hret ls hl
  have hl : lv_has ls 2 [(0, .ref (qa 0)), (1, .int 7)] := hl
  have lf19 := hts (.fieldLink RX12 19 "RiverVows" "country" "LRiverVows$Land;") (by decide +kernel)
  have inX12 : ∀ w ∈ wsX120, w ∈ pw_count_7 := by decide +kernel
  have lf426 := hts (.fieldLink RX12 426 "RiverVows$Land" "kin" "I") (by decide +kernel)
  have inX3 : ∀ w ∈ wsX30, w ∈ pw_count_7 := by decide +kernel
  refine lv_iload_n hx hb dX12_count_0 rfl (lv_at hl 1 rfl) ?_
  refine lv_tableIn (tgt := 109) hx hb dX12_count_1 (by decide) (by decide) (by rfl) (by decide) ?_
  refine lv_aload_n hx hb dX12_count_109 rfl (lv_at hl 0 rfl) ?_
  refine va_get (ci := 9) (v := .ref (qa 30)) (C := RX12) (T := TX12) (N := 16) hx hb hts inX12 hown hK hP 0 rfl rfl 11 (by decide) lf19 (fun _ h9 => h9) rfl dX12_count_110 ?_
  refine va_get (ci := 2) (v := .int 0) (C := RX3) (T := TX3) (N := 12) hx hb hts inX3 hown hK hP 2 rfl rfl 9 (by decide) lf426 (fun _ h9 => h9) rfl dX12_count_113 ?_
  exact hret _ _ _ _ _ _ 0 () (by decide) (by decide) dX12_count_116 rfl rfl (hP.sub [] rfl) (hD.sub [] (by decide) rfl) hS
def pw_count_8 : List Cond := .code yX12_count cX12_count 2 (some .int) :: ([.fieldLink RX12 93 "RiverVows" "undoCount" "I"] ++ wsX120)
set_option maxHeartbeats 4000000 in
set_option maxRecDepth 100000 in
theorem c_count_8 (l : Launch) (D : va_G) (k : Nat → ClassId) (sz : Nat) (qa : Nat → Nat)  : pMi l yX12_count pw_count_8 ({ frames := 0, cells := 0, slots := 0, locals := 0 }) D k [.ref (qa 0), .int 8] [((qa 0), .inr (9, [.ref (qa 1), .ref (qa 6), .ref (qa 9), .ref (qa 17), .ref (qa 18), .ref (qa 19), .ref (qa 20), .ref (qa 23), .ref (qa 25), .ref (qa 28), .ref (qa 29), .ref (qa 30), .ref (qa 31), .int 0, .int 0, .int 0])), ((qa 9), .inr (8, [.ref (qa 10), .ref (qa 11), .ref (qa 12), .ref (qa 13), .ref (qa 14), .ref (qa 15), .ref (qa 16), .int 0, .int (-1), .int 0, .int 0])), ((qa 30), .inr (2, [.ref (qa 133), .ref (qa 134), .ref (qa 135), .ref (qa 136), .ref (qa 137), .ref (qa 138), .ref (qa 139), .int 0, .int 0, .int 0, .int 0, .int 0])), ((qa 20), .inr (4, [.ref (qa 21), .ref (qa 22), .ref (qa 30)])), ((qa 21), .inl (k 1, 6, .inl (fun _ => 0))), ((qa 22), .inl (k 1, 6, .inl (fun _ => 0))), ((qa 1), .inr (7, [.ref (qa 2), .ref (qa 3), .ref (qa 4), .ref (qa 5), .int 0, .int 0, .int 0, .int 0, .int 0, .int 0, .long 0, .null]))] sz (S := Unit) (fun r u => r = 0) (fun u => []) 0 0 := by
  refine p_ofi (cc := cX12_count) (maxL := 2) (rt := .int) (by decide) rfl (Nat.le_of_ble_eq_true rfl) ?_
  intro p e s m below meth c hx hb hml hown hts hK hN A hA hP hD hS Q hret ls hl
  have hl : lv_has ls 2 [(0, .ref (qa 0)), (1, .int 8)] := hl
  have lf93 := hts (.fieldLink RX12 93 "RiverVows" "undoCount" "I") (by decide +kernel)
  have inX12 : ∀ w ∈ wsX120, w ∈ pw_count_8 := by decide +kernel
  refine lv_iload_n hx hb dX12_count_0 rfl (lv_at hl 1 rfl) ?_
  refine lv_tableIn (tgt := 117) hx hb dX12_count_1 (by decide) (by decide) (by rfl) (by decide) ?_
  refine lv_aload_n hx hb dX12_count_117 rfl (lv_at hl 0 rfl) ?_
  refine va_get (ci := 9) (v := .int 0) (C := RX12) (T := TX12) (N := 16) hx hb hts inX12 hown hK hP 0 rfl rfl 15 (by decide) lf93 (fun _ h9 => h9) rfl dX12_count_118 ?_
  exact hret _ _ _ _ _ _ 0 () (by decide) (by decide) dX12_count_121 rfl rfl (hP.sub [] rfl) (hD.sub [] (by decide) rfl) hS
def pw_count_9 : List Cond := .code yX12_count cX12_count 2 (some .int) :: ([.fieldLink RX12 10 "RiverVows" "tape" "LRiverVows$Scanner;", .fieldLink RX12 100 "RiverVows$Scanner" "length" "I"] ++ wsX120 ++ wsX80)
set_option maxHeartbeats 4000000 in
set_option maxRecDepth 100000 in
theorem c_count_9 (l : Launch) (D : va_G) (k : Nat → ClassId) (sz : Nat) (qa : Nat → Nat)  : pMi l yX12_count pw_count_9 ({ frames := 0, cells := 0, slots := 0, locals := 0 }) D k [.ref (qa 0), .int 9] [((qa 0), .inr (9, [.ref (qa 1), .ref (qa 6), .ref (qa 9), .ref (qa 17), .ref (qa 18), .ref (qa 19), .ref (qa 20), .ref (qa 23), .ref (qa 25), .ref (qa 28), .ref (qa 29), .ref (qa 30), .ref (qa 31), .int 0, .int 0, .int 0])), ((qa 9), .inr (8, [.ref (qa 10), .ref (qa 11), .ref (qa 12), .ref (qa 13), .ref (qa 14), .ref (qa 15), .ref (qa 16), .int 0, .int (-1), .int 0, .int 0])), ((qa 30), .inr (2, [.ref (qa 133), .ref (qa 134), .ref (qa 135), .ref (qa 136), .ref (qa 137), .ref (qa 138), .ref (qa 139), .int 0, .int 0, .int 0, .int 0, .int 0])), ((qa 20), .inr (4, [.ref (qa 21), .ref (qa 22), .ref (qa 30)])), ((qa 21), .inl (k 1, 6, .inl (fun _ => 0))), ((qa 22), .inl (k 1, 6, .inl (fun _ => 0))), ((qa 1), .inr (7, [.ref (qa 2), .ref (qa 3), .ref (qa 4), .ref (qa 5), .int 0, .int 0, .int 0, .int 0, .int 0, .int 0, .long 0, .null]))] sz (S := Unit) (fun r u => r = 0) (fun u => []) 0 0 := by
  refine p_ofi (cc := cX12_count) (maxL := 2) (rt := .int) (by decide) rfl (Nat.le_of_ble_eq_true rfl) ?_
  intro p e s m below meth c hx hb hml hown hts hK hN A hA hP hD hS Q hret ls hl
  have hl : lv_has ls 2 [(0, .ref (qa 0)), (1, .int 9)] := hl
  have lf10 := hts (.fieldLink RX12 10 "RiverVows" "tape" "LRiverVows$Scanner;") (by decide +kernel)
  have inX12 : ∀ w ∈ wsX120, w ∈ pw_count_9 := by decide +kernel
  have lf100 := hts (.fieldLink RX12 100 "RiverVows$Scanner" "length" "I") (by decide +kernel)
  have inX8 : ∀ w ∈ wsX80, w ∈ pw_count_9 := by decide +kernel
  refine lv_iload_n hx hb dX12_count_0 rfl (lv_at hl 1 rfl) ?_
  refine lv_tableIn (tgt := 122) hx hb dX12_count_1 (by decide) (by decide) (by rfl) (by decide) ?_
  refine lv_aload_n hx hb dX12_count_122 rfl (lv_at hl 0 rfl) ?_
  refine va_get (ci := 9) (v := .ref (qa 1)) (C := RX12) (T := TX12) (N := 16) hx hb hts inX12 hown hK hP 0 rfl rfl 0 (by decide) lf10 (fun _ h9 => h9) rfl dX12_count_123 ?_
  refine va_get (ci := 7) (v := .int 0) (C := RX8) (T := TX8) (N := 12) hx hb hts inX8 hown hK hP 6 rfl rfl 6 (by decide) lf100 (fun _ h9 => h9) rfl dX12_count_126 ?_
  exact hret _ _ _ _ _ _ 0 () (by decide) (by decide) dX12_count_129 rfl rfl (hP.sub [] rfl) (hD.sub [] (by decide) rfl) hS
def pw_count_lo : List Cond := .code yX12_count cX12_count 2 (some .int) :: ([])
set_option maxHeartbeats 4000000 in
set_option maxRecDepth 100000 in
theorem c_count_lo (l : Launch) (D : va_G) (k : Nat → ClassId) (sz : Nat) (qa : Nat → Nat) (w : Int32) (hw : w < 0) : pMi l yX12_count pw_count_lo ({ frames := 0, cells := 0, slots := 0, locals := 0 }) D k [.ref (qa 0), .int w] [((qa 0), .inr (9, [.ref (qa 1), .ref (qa 6), .ref (qa 9), .ref (qa 17), .ref (qa 18), .ref (qa 19), .ref (qa 20), .ref (qa 23), .ref (qa 25), .ref (qa 28), .ref (qa 29), .ref (qa 30), .ref (qa 31), .int 0, .int 0, .int 0])), ((qa 9), .inr (8, [.ref (qa 10), .ref (qa 11), .ref (qa 12), .ref (qa 13), .ref (qa 14), .ref (qa 15), .ref (qa 16), .int 0, .int (-1), .int 0, .int 0])), ((qa 30), .inr (2, [.ref (qa 133), .ref (qa 134), .ref (qa 135), .ref (qa 136), .ref (qa 137), .ref (qa 138), .ref (qa 139), .int 0, .int 0, .int 0, .int 0, .int 0])), ((qa 20), .inr (4, [.ref (qa 21), .ref (qa 22), .ref (qa 30)])), ((qa 21), .inl (k 1, 6, .inl (fun _ => 0))), ((qa 22), .inl (k 1, 6, .inl (fun _ => 0))), ((qa 1), .inr (7, [.ref (qa 2), .ref (qa 3), .ref (qa 4), .ref (qa 5), .int 0, .int 0, .int 0, .int 0, .int 0, .int 0, .long 0, .null]))] sz (S := Unit) (fun r u => r = (-1)) (fun u => []) 0 0 := by
  refine p_ofi (cc := cX12_count) (maxL := 2) (rt := .int) (by decide) rfl (Nat.le_of_ble_eq_true rfl) ?_
  intro p e s m below meth c hx hb hml hown hts hK hN A hA hP hD hS Q hret ls hl
  have hl : lv_has ls 2 [(0, .ref (qa 0)), (1, .int w)] := hl
  refine lv_iload_n hx hb dX12_count_0 rfl (lv_at hl 1 rfl) ?_
  refine lv_tableOut (tgt := 130) hx hb dX12_count_1 (by revert hw; simp only [Int32.lt_iff_toInt_lt, Int32.le_iff_toInt_le, ← Int32.toInt_inj, (by decide : (0 : Int32).toInt = 0)]; omega) (by decide) ?_
  refine lv_iconst (v := (-1)) hx hb dX12_count_130 (by decide) ?_
  exact hret _ _ _ _ _ _ (-1) () (by decide) (by decide) dX12_count_131 rfl rfl (hP.sub [] rfl) (hD.sub [] (by decide) rfl) hS
def pw_count_hi : List Cond := .code yX12_count cX12_count 2 (some .int) :: ([])
set_option maxHeartbeats 4000000 in
set_option maxRecDepth 100000 in
theorem c_count_hi (l : Launch) (D : va_G) (k : Nat → ClassId) (sz : Nat) (qa : Nat → Nat) (w : Int32) (hw : 9 < w) : pMi l yX12_count pw_count_hi ({ frames := 0, cells := 0, slots := 0, locals := 0 }) D k [.ref (qa 0), .int w] [((qa 0), .inr (9, [.ref (qa 1), .ref (qa 6), .ref (qa 9), .ref (qa 17), .ref (qa 18), .ref (qa 19), .ref (qa 20), .ref (qa 23), .ref (qa 25), .ref (qa 28), .ref (qa 29), .ref (qa 30), .ref (qa 31), .int 0, .int 0, .int 0])), ((qa 9), .inr (8, [.ref (qa 10), .ref (qa 11), .ref (qa 12), .ref (qa 13), .ref (qa 14), .ref (qa 15), .ref (qa 16), .int 0, .int (-1), .int 0, .int 0])), ((qa 30), .inr (2, [.ref (qa 133), .ref (qa 134), .ref (qa 135), .ref (qa 136), .ref (qa 137), .ref (qa 138), .ref (qa 139), .int 0, .int 0, .int 0, .int 0, .int 0])), ((qa 20), .inr (4, [.ref (qa 21), .ref (qa 22), .ref (qa 30)])), ((qa 21), .inl (k 1, 6, .inl (fun _ => 0))), ((qa 22), .inl (k 1, 6, .inl (fun _ => 0))), ((qa 1), .inr (7, [.ref (qa 2), .ref (qa 3), .ref (qa 4), .ref (qa 5), .int 0, .int 0, .int 0, .int 0, .int 0, .int 0, .long 0, .null]))] sz (S := Unit) (fun r u => r = (-1)) (fun u => []) 0 0 := by
  refine p_ofi (cc := cX12_count) (maxL := 2) (rt := .int) (by decide) rfl (Nat.le_of_ble_eq_true rfl) ?_
  intro p e s m below meth c hx hb hml hown hts hK hN A hA hP hD hS Q hret ls hl
  have hl : lv_has ls 2 [(0, .ref (qa 0)), (1, .int w)] := hl
  refine lv_iload_n hx hb dX12_count_0 rfl (lv_at hl 1 rfl) ?_
  refine lv_tableOut (tgt := 130) hx hb dX12_count_1 (by revert hw; simp only [Int32.lt_iff_toInt_lt, Int32.le_iff_toInt_le, ← Int32.toInt_inj, (by decide : (9 : Int32).toInt = 9)]; omega) (by decide) ?_
  refine lv_iconst (v := (-1)) hx hb dX12_count_130 (by decide) ?_
  exact hret _ _ _ _ _ _ (-1) () (by decide) (by decide) dX12_count_131 rfl rfl (hP.sub [] rfl) (hD.sub [] (by decide) rfl) hS
def pw_mark_0_1 : List Cond := .code yX12_mark cX12_mark 3 (some .boolean) :: ([.fieldLink RX12 46 "RiverVows" "marks" "[LRiverVows$Standing;", .fieldLink RX12 120 "RiverVows$Standing" "laid" "Z"] ++ wsX120 ++ wsX90)
set_option maxHeartbeats 4000000 in
set_option maxRecDepth 100000 in
theorem c_mark_0_1 (l : Launch) (D : va_G) (k : Nat → ClassId) (sz : Nat) (qa : Nat → Nat)  : pMi l yX12_mark pw_mark_0_1 ({ frames := 0, cells := 0, slots := 0, locals := 0 }) D k [.ref (qa 0), .int 0, .int 1] [((qa 0), .inr (9, [.ref (qa 1), .ref (qa 6), .ref (qa 9), .ref (qa 17), .ref (qa 18), .ref (qa 19), .ref (qa 20), .ref (qa 23), .ref (qa 25), .ref (qa 28), .ref (qa 29), .ref (qa 30), .ref (qa 31), .int 0, .int 0, .int 0])), ((qa 18), .inl (k 4, 4, .inr (.inr (.inr (.inr (va_up (va_up (va_up (va_up (fun _ => none) 0 (some (qa 37))) 1 (some (qa 45))) 2 (some (qa 53))) 3 (some (qa 61)))))))), ((qa 37), .inr (8, [.ref (qa 38), .ref (qa 39), .ref (qa 40), .ref (qa 41), .ref (qa 42), .ref (qa 43), .ref (qa 44), .int 0, .int (-1), .int 0, .int 0]))] sz (S := Unit) (fun r u => r = 0) (fun u => []) 0 0 := by
  refine p_ofi (cc := cX12_mark) (maxL := 3) (rt := .boolean) (by decide) rfl (Nat.le_of_ble_eq_true rfl) ?_
  intro p e s m below meth c hx hb hml hown hts hK hN A hA hP hD hS Q hret ls hl
  have hl : lv_has ls 3 [(0, .ref (qa 0)), (1, .int 0), (2, .int 1)] := hl
  have lf46 := hts (.fieldLink RX12 46 "RiverVows" "marks" "[LRiverVows$Standing;") (by decide +kernel)
  have inX12 : ∀ w ∈ wsX120, w ∈ pw_mark_0_1 := by decide +kernel
  have lf120 := hts (.fieldLink RX12 120 "RiverVows$Standing" "laid" "Z") (by decide +kernel)
  have inX9 : ∀ w ∈ wsX90, w ∈ pw_mark_0_1 := by decide +kernel
  refine lv_iload_n hx hb dX12_mark_0 rfl (lv_at hl 1 rfl) ?_
  refine lv_if_lt (tgt := 25) hx hb dX12_mark_1 (by decide) (fun h9 => absurd h9 (by decide)) (fun cx1 => ?_)
  refine lv_iload_n hx hb dX12_mark_4 rfl (lv_at hl 1 rfl) ?_
  refine lv_iconst (v := 4) hx hb dX12_mark_5 (by decide) ?_
  refine lv_icmp_ge (tgt := 25) hx hb dX12_mark_6 (by decide) (fun h9 => absurd h9 (by decide)) (fun cx2 => ?_)
  refine lv_iload_n hx hb dX12_mark_9 rfl (lv_at hl 2 rfl) ?_
  refine lv_if_eq (tgt := 27) hx hb dX12_mark_10 (by decide) (fun h9 => absurd h9 (by decide)) (fun cx3 => ?_)
  refine lv_aload_n hx hb dX12_mark_13 rfl (lv_at hl 0 rfl) ?_
  refine va_get (ci := 9) (v := .ref (qa 18)) (C := RX12) (T := TX12) (N := 16) hx hb hts inX12 hown hK hP 0 rfl rfl 4 (by decide) lf46 (fun _ h9 => h9) rfl dX12_mark_14 ?_
  refine lv_iload_n hx hb dX12_mark_17 rfl (lv_at hl 1 rfl) ?_
  refine va_aldq hx hb hK hP 1 4 rfl rfl (show ¬ (_ ∨ _) by decide) dX12_mark_18 ?_
  refine p_topV (v := .ref (qa 37)) rfl ?_
  refine va_get (ci := 8) (v := .int 0) (C := RX9) (T := TX9) (N := 11) hx hb hts inX9 hown hK hP 2 rfl rfl 10 (by decide) lf120 (fun _ h9 => h9) rfl dX12_mark_19 ?_
  refine lv_if_ne (tgt := 27) hx hb dX12_mark_22 (by decide) (fun h9 => absurd (by decide) h9) (fun cx4 => ?_)
  refine lv_iconst (v := 0) hx hb dX12_mark_25 (by decide) ?_
  exact hret _ _ _ _ _ _ 0 () (by decide) (by decide) dX12_mark_26 rfl rfl (hP.sub [] rfl) (hD.sub [] (by decide) rfl) hS
def pw_mark_0_0 : List Cond := .code yX12_mark cX12_mark 3 (some .boolean) :: ([.fieldLink RX12 46 "RiverVows" "marks" "[LRiverVows$Standing;", .fieldLink RX12 38 "RiverVows" "now" "LRiverVows$Standing;", .code yX9_takeAll cX9_takeAll 2 none, .code yX9_takeBonds cX9_takeBonds 2 none, .fieldLink RX9 9 "RiverVows$Standing" "husband" "[I", .methodLink RX9 43 arraycopyName, .native arraycopyName, .static arraycopyName, .initialized "java/lang/System", .fieldLink RX9 15 "RiverVows$Standing" "owed" "[I", .fieldLink RX9 18 "RiverVows$Standing" "silt" "[I", .fieldLink RX9 37 "RiverVows$Standing" "passed" "I", .methodLink RX9 49 yX9_takeBonds, .instanceMethod yX9_takeBonds, .selects RX9 yX9_takeBonds yX9_takeBonds, .initialized RX9, .fieldLink RX9 21 "RiverVows$Standing" "wants" "[I", .fieldLink RX9 24 "RiverVows$Standing" "toldRiver" "[I", .fieldLink RX9 27 "RiverVows$Standing" "toldSeason" "[I", .fieldLink RX9 30 "RiverVows$Standing" "toldFlow" "[I", .fieldLink RX9 33 "RiverVows$Standing" "heirs" "I", .fieldLink RX9 40 "RiverVows$Standing" "told" "I", .methodLink RX12 282 yX9_takeAll, .instanceMethod yX9_takeAll, .selects RX9 yX9_takeAll yX9_takeAll, .fieldLink RX12 120 "RiverVows$Standing" "laid" "Z"] ++ wsX120 ++ wsX90)
set_option maxRecDepth 20000 in
theorem pg_mark_0_0_0 : GoodIn pw_mark_0_0 (wsV RX12 282 RX9 yX9_takeAll pw_Standing_takeAll) := goodIn_sub (by decide +kernel) (by decide +kernel)
set_option maxHeartbeats 4000000 in
set_option maxRecDepth 100000 in
theorem c_mark_0_0 (l : Launch) (D : va_G) (k : Nat → ClassId) (sz : Nat) (qa : Nat → Nat) (fm : Nat → Int32) (fn : Nat → Int32)  : pMi l yX12_mark pw_mark_0_0 ({ frames := 3, cells := 0, slots := 0, locals := 102 }) D k [.ref (qa 0), .int 0, .int 0] [((qa 0), .inr (9, [.ref (qa 1), .ref (qa 6), .ref (qa 9), .ref (qa 17), .ref (qa 18), .ref (qa 19), .ref (qa 20), .ref (qa 23), .ref (qa 25), .ref (qa 28), .ref (qa 29), .ref (qa 30), .ref (qa 31), .int 0, .int 0, .int 0])), ((qa 18), .inl (k 4, 4, .inr (.inr (.inr (.inr (va_up (va_up (va_up (va_up (fun _ => none) 0 (some (qa 37))) 1 (some (qa 45))) 2 (some (qa 53))) 3 (some (qa 61)))))))), ((qa 37), .inr (8, [.ref (qa 38), .ref (qa 39), .ref (qa 40), .ref (qa 41), .ref (qa 42), .ref (qa 43), .ref (qa 44), .int 0, .int (-1), .int 0, .int 0])), ((qa 38), .inl (k 1, 6, .inl fm)), ((qa 39), .inl (k 1, 6, .inl (fun _ => 0))), ((qa 40), .inl (k 1, 6, .inl (fun _ => 0))), ((qa 41), .inl (k 1, 6, .inl (fun _ => 0))), ((qa 42), .inl (k 1, 10, .inl (fun _ => 0))), ((qa 43), .inl (k 1, 10, .inl (fun _ => 0))), ((qa 44), .inl (k 1, 10, .inl (fun _ => 0))), ((qa 9), .inr (8, [.ref (qa 10), .ref (qa 11), .ref (qa 12), .ref (qa 13), .ref (qa 14), .ref (qa 15), .ref (qa 16), .int 0, .int (-1), .int 0, .int 0])), ((qa 10), .inl (k 1, 6, .inl fn)), ((qa 11), .inl (k 1, 6, .inl (fun _ => 0))), ((qa 12), .inl (k 1, 6, .inl (fun _ => 0))), ((qa 13), .inl (k 1, 6, .inl (fun _ => 0))), ((qa 14), .inl (k 1, 10, .inl (fun _ => 0))), ((qa 15), .inl (k 1, 10, .inl (fun _ => 0))), ((qa 16), .inl (k 1, 10, .inl (fun _ => 0)))] sz (S := Unit) (fun r u => r = 1) (fun u => []) 0 0 := by
  refine p_ofi (cc := cX12_mark) (maxL := 3) (rt := .boolean) (by decide) rfl (Nat.le_of_ble_eq_true rfl) ?_
  intro p e s m below meth c hx hb hml hown hts hK hN A hA hP hD hS Q hret ls hl
  have hl : lv_has ls 3 [(0, .ref (qa 0)), (1, .int 0), (2, .int 0)] := hl
  have lf46 := hts (.fieldLink RX12 46 "RiverVows" "marks" "[LRiverVows$Standing;") (by decide +kernel)
  have inX12 : ∀ w ∈ wsX120, w ∈ pw_mark_0_0 := by decide +kernel
  have lf38 := hts (.fieldLink RX12 38 "RiverVows" "now" "LRiverVows$Standing;") (by decide +kernel)
  have lf120 := hts (.fieldLink RX12 120 "RiverVows$Standing" "laid" "Z") (by decide +kernel)
  have inX9 : ∀ w ∈ wsX90, w ∈ pw_mark_0_0 := by decide +kernel
  refine lv_iload_n hx hb dX12_mark_0 rfl (lv_at hl 1 rfl) ?_
  refine lv_if_lt (tgt := 25) hx hb dX12_mark_1 (by decide) (fun h9 => absurd h9 (by decide)) (fun cx1 => ?_)
  refine lv_iload_n hx hb dX12_mark_4 rfl (lv_at hl 1 rfl) ?_
  refine lv_iconst (v := 4) hx hb dX12_mark_5 (by decide) ?_
  refine lv_icmp_ge (tgt := 25) hx hb dX12_mark_6 (by decide) (fun h9 => absurd h9 (by decide)) (fun cx2 => ?_)
  refine lv_iload_n hx hb dX12_mark_9 rfl (lv_at hl 2 rfl) ?_
  refine lv_if_eq (tgt := 27) hx hb dX12_mark_10 (by decide) (fun cx3 => ?_) (fun h9 => absurd (by decide) h9)
  refine lv_iload_n hx hb dX12_mark_27 rfl (lv_at hl 2 rfl) ?_
  refine lv_if_eq (tgt := 60) hx hb dX12_mark_28 (by decide) (fun cx4 => ?_) (fun h9 => absurd (by decide) h9)
  refine lv_aload_n hx hb dX12_mark_60 rfl (lv_at hl 0 rfl) ?_
  refine va_get (ci := 9) (v := .ref (qa 18)) (C := RX12) (T := TX12) (N := 16) hx hb hts inX12 hown hK hP 0 rfl rfl 4 (by decide) lf46 (fun _ h9 => h9) rfl dX12_mark_61 ?_
  refine lv_iload_n hx hb dX12_mark_64 rfl (lv_at hl 1 rfl) ?_
  refine va_aldq hx hb hK hP 1 4 rfl rfl (show ¬ (_ ∨ _) by decide) dX12_mark_65 ?_
  refine p_topV (v := .ref (qa 37)) rfl ?_
  refine lv_aload_n hx hb dX12_mark_66 rfl (lv_at hl 0 rfl) ?_
  refine va_get (ci := 9) (v := .ref (qa 9)) (C := RX12) (T := TX12) (N := 16) hx hb hts inX12 hown hK hP 0 rfl rfl 2 (by decide) lf38 (fun _ h9 => h9) rfl dX12_mark_67 ?_
  refine p_jv (wr := [((qa 0), .inr (9, [.ref (qa 1), .ref (qa 6), .ref (qa 9), .ref (qa 17), .ref (qa 18), .ref (qa 19), .ref (qa 20), .ref (qa 23), .ref (qa 25), .ref (qa 28), .ref (qa 29), .ref (qa 30), .ref (qa 31), .int 0, .int 0, .int 0])), ((qa 18), .inl (k 4, 4, .inr (.inr (.inr (.inr (va_up (va_up (va_up (va_up (fun _ => none) 0 (some (qa 37))) 1 (some (qa 45))) 2 (some (qa 53))) 3 (some (qa 61))))))))]) (va_runV (As := [.ref (qa 9)]) (rest := []) ⟨hx, hb, hml, hown, hts⟩ (c_Standing_takeAll l D k _ (qa 37) (qa 38) (qa 39) (qa 40) (qa 41) (qa 42) (qa 43) (qa 44) (qa 9) (qa 10) (qa 11) (qa 12) (qa 13) (qa 14) (qa 15) (qa 16) (.int 0) (.int (-1)) (.int 0) (.int 0) 0 (-1) 0 (.int 0) fm (fun _ => 0) (fun _ => 0) (fun _ => 0) (fun _ => 0) (fun _ => 0) (fun _ => 0) fn (fun _ => 0) (fun _ => 0) (fun _ => 0) (fun _ => 0) (fun _ => 0) (fun _ => 0)) (cwV 1 hts pg_mark_0_0_0 rfl rfl rfl (by decide +kernel) ⟨Nat.le_of_ble_eq_true rfl, Nat.le_of_ble_eq_true rfl⟩) (pV hK hN hP hD [2, 3, 4, 5, 6, 7, 8, 9, 10, 11, 12, 13, 14, 15, 16, 17] rfl (by decide) rfl 2 rfl rfl) rfl rfl hl.1 rfl (lv_room (Nat.le_of_ble_eq_true rfl)) dX12_mark_70 ⟨by decide, by decide⟩) hP hD hS hA [2, 3, 4, 5, 6, 7, 8, 9, 10, 11, 12, 13, 14, 15, 16, 17] [0, 1] rfl rfl (by decide) (by decide) (fun ux5 H locs wx6 hP hD hS => ?_)
  obtain ⟨ga0_x8, ga1_x9, ga2_x10, ga3_x11, ga4_x12, ga5_x13, ga6_x14⟩ := ux5
  have hP : va_P D vwCl [((qa 0), .inr (9, [.ref (qa 1), .ref (qa 6), .ref (qa 9), .ref (qa 17), .ref (qa 18), .ref (qa 19), .ref (qa 20), .ref (qa 23), .ref (qa 25), .ref (qa 28), .ref (qa 29), .ref (qa 30), .ref (qa 31), .int 0, .int 0, .int 0])), ((qa 18), .inl (k 4, 4, .inr (.inr (.inr (.inr (va_up (va_up (va_up (va_up (fun _ => none) 0 (some (qa 37))) 1 (some (qa 45))) 2 (some (qa 53))) 3 (some (qa 61)))))))), ((qa 37), .inr (8, [.ref (qa 38), .ref (qa 39), .ref (qa 40), .ref (qa 41), .ref (qa 42), .ref (qa 43), .ref (qa 44), .int 0, .int (-1), .int 0, .int 0])), ((qa 38), .inl (k 1, 6, .inl ga0_x8)), ((qa 39), .inl (k 1, 6, .inl ga1_x9)), ((qa 40), .inl (k 1, 6, .inl ga2_x10)), ((qa 41), .inl (k 1, 6, .inl ga3_x11)), ((qa 42), .inl (k 1, 10, .inl ga4_x12)), ((qa 43), .inl (k 1, 10, .inl ga5_x13)), ((qa 44), .inl (k 1, 10, .inl ga6_x14))] H := hP
  have hD : va_D A [((qa 0), .inr (9, [.ref (qa 1), .ref (qa 6), .ref (qa 9), .ref (qa 17), .ref (qa 18), .ref (qa 19), .ref (qa 20), .ref (qa 23), .ref (qa 25), .ref (qa 28), .ref (qa 29), .ref (qa 30), .ref (qa 31), .int 0, .int 0, .int 0])), ((qa 18), .inl (k 4, 4, .inr (.inr (.inr (.inr (va_up (va_up (va_up (va_up (fun _ => none) 0 (some (qa 37))) 1 (some (qa 45))) 2 (some (qa 53))) 3 (some (qa 61)))))))), ((qa 37), .inr (8, [.ref (qa 38), .ref (qa 39), .ref (qa 40), .ref (qa 41), .ref (qa 42), .ref (qa 43), .ref (qa 44), .int 0, .int (-1), .int 0, .int 0])), ((qa 38), .inl (k 1, 6, .inl ga0_x8)), ((qa 39), .inl (k 1, 6, .inl ga1_x9)), ((qa 40), .inl (k 1, 6, .inl ga2_x10)), ((qa 41), .inl (k 1, 6, .inl ga3_x11)), ((qa 42), .inl (k 1, 10, .inl ga4_x12)), ((qa 43), .inl (k 1, 10, .inl ga5_x13)), ((qa 44), .inl (k 1, 10, .inl ga6_x14))] := hD
  refine lv_aload_n hx hb dX12_mark_73 rfl (lv_at hl 0 rfl) ?_
  refine va_get (ci := 9) (v := .ref (qa 18)) (C := RX12) (T := TX12) (N := 16) hx hb hts inX12 hown hK hP 0 rfl rfl 4 (by decide) lf46 (fun _ h9 => h9) rfl dX12_mark_74 ?_
  refine lv_iload_n hx hb dX12_mark_77 rfl (lv_at hl 1 rfl) ?_
  refine va_aldq hx hb hK hP 1 4 rfl rfl (show ¬ (_ ∨ _) by decide) dX12_mark_78 ?_
  refine p_topV (v := .ref (qa 37)) rfl ?_
  refine lv_iconst (v := 1) hx hb dX12_mark_79 (by decide) ?_
  refine va_put (ci := 8) (v := .int 1) (ty := .boolean) (C := RX9) (T := TX9) (N := 11) hx hb hts inX9 tyX9 tyX9_ok nmX9 hown hK hP hD hS 2 rfl rfl 10 (by decide) lf120 (fun _ h9 => h9) rfl (by decide +kernel) rfl rfl (Nat.le_of_ble_eq_true rfl) dX12_mark_80 (fun H locs hP hD hS => ?_)
  have hP : va_P D vwCl [((qa 0), .inr (9, [.ref (qa 1), .ref (qa 6), .ref (qa 9), .ref (qa 17), .ref (qa 18), .ref (qa 19), .ref (qa 20), .ref (qa 23), .ref (qa 25), .ref (qa 28), .ref (qa 29), .ref (qa 30), .ref (qa 31), .int 0, .int 0, .int 0])), ((qa 18), .inl (k 4, 4, .inr (.inr (.inr (.inr (va_up (va_up (va_up (va_up (fun _ => none) 0 (some (qa 37))) 1 (some (qa 45))) 2 (some (qa 53))) 3 (some (qa 61)))))))), ((qa 37), .inr (8, [.ref (qa 38), .ref (qa 39), .ref (qa 40), .ref (qa 41), .ref (qa 42), .ref (qa 43), .ref (qa 44), .int 0, .int (-1), .int 0, .int 1])), ((qa 38), .inl (k 1, 6, .inl ga0_x8)), ((qa 39), .inl (k 1, 6, .inl ga1_x9)), ((qa 40), .inl (k 1, 6, .inl ga2_x10)), ((qa 41), .inl (k 1, 6, .inl ga3_x11)), ((qa 42), .inl (k 1, 10, .inl ga4_x12)), ((qa 43), .inl (k 1, 10, .inl ga5_x13)), ((qa 44), .inl (k 1, 10, .inl ga6_x14))] H := hP
  have hD : va_D A [((qa 0), .inr (9, [.ref (qa 1), .ref (qa 6), .ref (qa 9), .ref (qa 17), .ref (qa 18), .ref (qa 19), .ref (qa 20), .ref (qa 23), .ref (qa 25), .ref (qa 28), .ref (qa 29), .ref (qa 30), .ref (qa 31), .int 0, .int 0, .int 0])), ((qa 18), .inl (k 4, 4, .inr (.inr (.inr (.inr (va_up (va_up (va_up (va_up (fun _ => none) 0 (some (qa 37))) 1 (some (qa 45))) 2 (some (qa 53))) 3 (some (qa 61)))))))), ((qa 37), .inr (8, [.ref (qa 38), .ref (qa 39), .ref (qa 40), .ref (qa 41), .ref (qa 42), .ref (qa 43), .ref (qa 44), .int 0, .int (-1), .int 0, .int 1])), ((qa 38), .inl (k 1, 6, .inl ga0_x8)), ((qa 39), .inl (k 1, 6, .inl ga1_x9)), ((qa 40), .inl (k 1, 6, .inl ga2_x10)), ((qa 41), .inl (k 1, 6, .inl ga3_x11)), ((qa 42), .inl (k 1, 10, .inl ga4_x12)), ((qa 43), .inl (k 1, 10, .inl ga5_x13)), ((qa 44), .inl (k 1, 10, .inl ga6_x14))] := hD
  refine lv_iconst (v := 1) hx hb dX12_mark_83 (by decide) ?_
  exact hret _ _ _ _ _ _ 1 () (by decide) (by decide) dX12_mark_84 rfl rfl (hP.sub [] rfl) (hD.sub [] (by decide) rfl) hS
def pw_mark_1_1 : List Cond := .code yX12_mark cX12_mark 3 (some .boolean) :: ([.fieldLink RX12 46 "RiverVows" "marks" "[LRiverVows$Standing;", .fieldLink RX12 120 "RiverVows$Standing" "laid" "Z"] ++ wsX120 ++ wsX90)
set_option maxHeartbeats 4000000 in
set_option maxRecDepth 100000 in
theorem c_mark_1_1 (l : Launch) (D : va_G) (k : Nat → ClassId) (sz : Nat) (qa : Nat → Nat)  : pMi l yX12_mark pw_mark_1_1 ({ frames := 0, cells := 0, slots := 0, locals := 0 }) D k [.ref (qa 0), .int 1, .int 1] [((qa 0), .inr (9, [.ref (qa 1), .ref (qa 6), .ref (qa 9), .ref (qa 17), .ref (qa 18), .ref (qa 19), .ref (qa 20), .ref (qa 23), .ref (qa 25), .ref (qa 28), .ref (qa 29), .ref (qa 30), .ref (qa 31), .int 0, .int 0, .int 0])), ((qa 18), .inl (k 4, 4, .inr (.inr (.inr (.inr (va_up (va_up (va_up (va_up (fun _ => none) 0 (some (qa 37))) 1 (some (qa 45))) 2 (some (qa 53))) 3 (some (qa 61)))))))), ((qa 45), .inr (8, [.ref (qa 46), .ref (qa 47), .ref (qa 48), .ref (qa 49), .ref (qa 50), .ref (qa 51), .ref (qa 52), .int 0, .int (-1), .int 0, .int 0]))] sz (S := Unit) (fun r u => r = 0) (fun u => []) 0 0 := by
  refine p_ofi (cc := cX12_mark) (maxL := 3) (rt := .boolean) (by decide) rfl (Nat.le_of_ble_eq_true rfl) ?_
  intro p e s m below meth c hx hb hml hown hts hK hN A hA hP hD hS Q hret ls hl
  have hl : lv_has ls 3 [(0, .ref (qa 0)), (1, .int 1), (2, .int 1)] := hl
  have lf46 := hts (.fieldLink RX12 46 "RiverVows" "marks" "[LRiverVows$Standing;") (by decide +kernel)
  have inX12 : ∀ w ∈ wsX120, w ∈ pw_mark_1_1 := by decide +kernel
  have lf120 := hts (.fieldLink RX12 120 "RiverVows$Standing" "laid" "Z") (by decide +kernel)
  have inX9 : ∀ w ∈ wsX90, w ∈ pw_mark_1_1 := by decide +kernel
  refine lv_iload_n hx hb dX12_mark_0 rfl (lv_at hl 1 rfl) ?_
  refine lv_if_lt (tgt := 25) hx hb dX12_mark_1 (by decide) (fun h9 => absurd h9 (by decide)) (fun cx1 => ?_)
  refine lv_iload_n hx hb dX12_mark_4 rfl (lv_at hl 1 rfl) ?_
  refine lv_iconst (v := 4) hx hb dX12_mark_5 (by decide) ?_
  refine lv_icmp_ge (tgt := 25) hx hb dX12_mark_6 (by decide) (fun h9 => absurd h9 (by decide)) (fun cx2 => ?_)
  refine lv_iload_n hx hb dX12_mark_9 rfl (lv_at hl 2 rfl) ?_
  refine lv_if_eq (tgt := 27) hx hb dX12_mark_10 (by decide) (fun h9 => absurd h9 (by decide)) (fun cx3 => ?_)
  refine lv_aload_n hx hb dX12_mark_13 rfl (lv_at hl 0 rfl) ?_
  refine va_get (ci := 9) (v := .ref (qa 18)) (C := RX12) (T := TX12) (N := 16) hx hb hts inX12 hown hK hP 0 rfl rfl 4 (by decide) lf46 (fun _ h9 => h9) rfl dX12_mark_14 ?_
  refine lv_iload_n hx hb dX12_mark_17 rfl (lv_at hl 1 rfl) ?_
  refine va_aldq hx hb hK hP 1 4 rfl rfl (show ¬ (_ ∨ _) by decide) dX12_mark_18 ?_
  refine p_topV (v := .ref (qa 45)) rfl ?_
  refine va_get (ci := 8) (v := .int 0) (C := RX9) (T := TX9) (N := 11) hx hb hts inX9 hown hK hP 2 rfl rfl 10 (by decide) lf120 (fun _ h9 => h9) rfl dX12_mark_19 ?_
  refine lv_if_ne (tgt := 27) hx hb dX12_mark_22 (by decide) (fun h9 => absurd (by decide) h9) (fun cx4 => ?_)
  refine lv_iconst (v := 0) hx hb dX12_mark_25 (by decide) ?_
  exact hret _ _ _ _ _ _ 0 () (by decide) (by decide) dX12_mark_26 rfl rfl (hP.sub [] rfl) (hD.sub [] (by decide) rfl) hS
def pw_mark_1_0 : List Cond := .code yX12_mark cX12_mark 3 (some .boolean) :: ([.fieldLink RX12 46 "RiverVows" "marks" "[LRiverVows$Standing;", .fieldLink RX12 38 "RiverVows" "now" "LRiverVows$Standing;", .code yX9_takeAll cX9_takeAll 2 none, .code yX9_takeBonds cX9_takeBonds 2 none, .fieldLink RX9 9 "RiverVows$Standing" "husband" "[I", .methodLink RX9 43 arraycopyName, .native arraycopyName, .static arraycopyName, .initialized "java/lang/System", .fieldLink RX9 15 "RiverVows$Standing" "owed" "[I", .fieldLink RX9 18 "RiverVows$Standing" "silt" "[I", .fieldLink RX9 37 "RiverVows$Standing" "passed" "I", .methodLink RX9 49 yX9_takeBonds, .instanceMethod yX9_takeBonds, .selects RX9 yX9_takeBonds yX9_takeBonds, .initialized RX9, .fieldLink RX9 21 "RiverVows$Standing" "wants" "[I", .fieldLink RX9 24 "RiverVows$Standing" "toldRiver" "[I", .fieldLink RX9 27 "RiverVows$Standing" "toldSeason" "[I", .fieldLink RX9 30 "RiverVows$Standing" "toldFlow" "[I", .fieldLink RX9 33 "RiverVows$Standing" "heirs" "I", .fieldLink RX9 40 "RiverVows$Standing" "told" "I", .methodLink RX12 282 yX9_takeAll, .instanceMethod yX9_takeAll, .selects RX9 yX9_takeAll yX9_takeAll, .fieldLink RX12 120 "RiverVows$Standing" "laid" "Z"] ++ wsX120 ++ wsX90)
set_option maxRecDepth 20000 in
theorem pg_mark_1_0_0 : GoodIn pw_mark_1_0 (wsV RX12 282 RX9 yX9_takeAll pw_Standing_takeAll) := goodIn_sub (by decide +kernel) (by decide +kernel)
set_option maxHeartbeats 4000000 in
set_option maxRecDepth 100000 in
theorem c_mark_1_0 (l : Launch) (D : va_G) (k : Nat → ClassId) (sz : Nat) (qa : Nat → Nat) (fm : Nat → Int32) (fn : Nat → Int32)  : pMi l yX12_mark pw_mark_1_0 ({ frames := 3, cells := 0, slots := 0, locals := 102 }) D k [.ref (qa 0), .int 1, .int 0] [((qa 0), .inr (9, [.ref (qa 1), .ref (qa 6), .ref (qa 9), .ref (qa 17), .ref (qa 18), .ref (qa 19), .ref (qa 20), .ref (qa 23), .ref (qa 25), .ref (qa 28), .ref (qa 29), .ref (qa 30), .ref (qa 31), .int 0, .int 0, .int 0])), ((qa 18), .inl (k 4, 4, .inr (.inr (.inr (.inr (va_up (va_up (va_up (va_up (fun _ => none) 0 (some (qa 37))) 1 (some (qa 45))) 2 (some (qa 53))) 3 (some (qa 61)))))))), ((qa 45), .inr (8, [.ref (qa 46), .ref (qa 47), .ref (qa 48), .ref (qa 49), .ref (qa 50), .ref (qa 51), .ref (qa 52), .int 0, .int (-1), .int 0, .int 0])), ((qa 46), .inl (k 1, 6, .inl fm)), ((qa 47), .inl (k 1, 6, .inl (fun _ => 0))), ((qa 48), .inl (k 1, 6, .inl (fun _ => 0))), ((qa 49), .inl (k 1, 6, .inl (fun _ => 0))), ((qa 50), .inl (k 1, 10, .inl (fun _ => 0))), ((qa 51), .inl (k 1, 10, .inl (fun _ => 0))), ((qa 52), .inl (k 1, 10, .inl (fun _ => 0))), ((qa 9), .inr (8, [.ref (qa 10), .ref (qa 11), .ref (qa 12), .ref (qa 13), .ref (qa 14), .ref (qa 15), .ref (qa 16), .int 0, .int (-1), .int 0, .int 0])), ((qa 10), .inl (k 1, 6, .inl fn)), ((qa 11), .inl (k 1, 6, .inl (fun _ => 0))), ((qa 12), .inl (k 1, 6, .inl (fun _ => 0))), ((qa 13), .inl (k 1, 6, .inl (fun _ => 0))), ((qa 14), .inl (k 1, 10, .inl (fun _ => 0))), ((qa 15), .inl (k 1, 10, .inl (fun _ => 0))), ((qa 16), .inl (k 1, 10, .inl (fun _ => 0)))] sz (S := Unit) (fun r u => r = 1) (fun u => []) 0 0 := by
  refine p_ofi (cc := cX12_mark) (maxL := 3) (rt := .boolean) (by decide) rfl (Nat.le_of_ble_eq_true rfl) ?_
  intro p e s m below meth c hx hb hml hown hts hK hN A hA hP hD hS Q hret ls hl
  have hl : lv_has ls 3 [(0, .ref (qa 0)), (1, .int 1), (2, .int 0)] := hl
  have lf46 := hts (.fieldLink RX12 46 "RiverVows" "marks" "[LRiverVows$Standing;") (by decide +kernel)
  have inX12 : ∀ w ∈ wsX120, w ∈ pw_mark_1_0 := by decide +kernel
  have lf38 := hts (.fieldLink RX12 38 "RiverVows" "now" "LRiverVows$Standing;") (by decide +kernel)
  have lf120 := hts (.fieldLink RX12 120 "RiverVows$Standing" "laid" "Z") (by decide +kernel)
  have inX9 : ∀ w ∈ wsX90, w ∈ pw_mark_1_0 := by decide +kernel
  refine lv_iload_n hx hb dX12_mark_0 rfl (lv_at hl 1 rfl) ?_
  refine lv_if_lt (tgt := 25) hx hb dX12_mark_1 (by decide) (fun h9 => absurd h9 (by decide)) (fun cx1 => ?_)
  refine lv_iload_n hx hb dX12_mark_4 rfl (lv_at hl 1 rfl) ?_
  refine lv_iconst (v := 4) hx hb dX12_mark_5 (by decide) ?_
  refine lv_icmp_ge (tgt := 25) hx hb dX12_mark_6 (by decide) (fun h9 => absurd h9 (by decide)) (fun cx2 => ?_)
  refine lv_iload_n hx hb dX12_mark_9 rfl (lv_at hl 2 rfl) ?_
  refine lv_if_eq (tgt := 27) hx hb dX12_mark_10 (by decide) (fun cx3 => ?_) (fun h9 => absurd (by decide) h9)
  refine lv_iload_n hx hb dX12_mark_27 rfl (lv_at hl 2 rfl) ?_
  refine lv_if_eq (tgt := 60) hx hb dX12_mark_28 (by decide) (fun cx4 => ?_) (fun h9 => absurd (by decide) h9)
  refine lv_aload_n hx hb dX12_mark_60 rfl (lv_at hl 0 rfl) ?_
  refine va_get (ci := 9) (v := .ref (qa 18)) (C := RX12) (T := TX12) (N := 16) hx hb hts inX12 hown hK hP 0 rfl rfl 4 (by decide) lf46 (fun _ h9 => h9) rfl dX12_mark_61 ?_
  refine lv_iload_n hx hb dX12_mark_64 rfl (lv_at hl 1 rfl) ?_
  refine va_aldq hx hb hK hP 1 4 rfl rfl (show ¬ (_ ∨ _) by decide) dX12_mark_65 ?_
  refine p_topV (v := .ref (qa 45)) rfl ?_
  refine lv_aload_n hx hb dX12_mark_66 rfl (lv_at hl 0 rfl) ?_
  refine va_get (ci := 9) (v := .ref (qa 9)) (C := RX12) (T := TX12) (N := 16) hx hb hts inX12 hown hK hP 0 rfl rfl 2 (by decide) lf38 (fun _ h9 => h9) rfl dX12_mark_67 ?_
  refine p_jv (wr := [((qa 0), .inr (9, [.ref (qa 1), .ref (qa 6), .ref (qa 9), .ref (qa 17), .ref (qa 18), .ref (qa 19), .ref (qa 20), .ref (qa 23), .ref (qa 25), .ref (qa 28), .ref (qa 29), .ref (qa 30), .ref (qa 31), .int 0, .int 0, .int 0])), ((qa 18), .inl (k 4, 4, .inr (.inr (.inr (.inr (va_up (va_up (va_up (va_up (fun _ => none) 0 (some (qa 37))) 1 (some (qa 45))) 2 (some (qa 53))) 3 (some (qa 61))))))))]) (va_runV (As := [.ref (qa 9)]) (rest := []) ⟨hx, hb, hml, hown, hts⟩ (c_Standing_takeAll l D k _ (qa 45) (qa 46) (qa 47) (qa 48) (qa 49) (qa 50) (qa 51) (qa 52) (qa 9) (qa 10) (qa 11) (qa 12) (qa 13) (qa 14) (qa 15) (qa 16) (.int 0) (.int (-1)) (.int 0) (.int 0) 0 (-1) 0 (.int 0) fm (fun _ => 0) (fun _ => 0) (fun _ => 0) (fun _ => 0) (fun _ => 0) (fun _ => 0) fn (fun _ => 0) (fun _ => 0) (fun _ => 0) (fun _ => 0) (fun _ => 0) (fun _ => 0)) (cwV 1 hts pg_mark_1_0_0 rfl rfl rfl (by decide +kernel) ⟨Nat.le_of_ble_eq_true rfl, Nat.le_of_ble_eq_true rfl⟩) (pV hK hN hP hD [2, 3, 4, 5, 6, 7, 8, 9, 10, 11, 12, 13, 14, 15, 16, 17] rfl (by decide) rfl 2 rfl rfl) rfl rfl hl.1 rfl (lv_room (Nat.le_of_ble_eq_true rfl)) dX12_mark_70 ⟨by decide, by decide⟩) hP hD hS hA [2, 3, 4, 5, 6, 7, 8, 9, 10, 11, 12, 13, 14, 15, 16, 17] [0, 1] rfl rfl (by decide) (by decide) (fun ux5 H locs wx6 hP hD hS => ?_)
  obtain ⟨ga0_x8, ga1_x9, ga2_x10, ga3_x11, ga4_x12, ga5_x13, ga6_x14⟩ := ux5
  have hP : va_P D vwCl [((qa 0), .inr (9, [.ref (qa 1), .ref (qa 6), .ref (qa 9), .ref (qa 17), .ref (qa 18), .ref (qa 19), .ref (qa 20), .ref (qa 23), .ref (qa 25), .ref (qa 28), .ref (qa 29), .ref (qa 30), .ref (qa 31), .int 0, .int 0, .int 0])), ((qa 18), .inl (k 4, 4, .inr (.inr (.inr (.inr (va_up (va_up (va_up (va_up (fun _ => none) 0 (some (qa 37))) 1 (some (qa 45))) 2 (some (qa 53))) 3 (some (qa 61)))))))), ((qa 45), .inr (8, [.ref (qa 46), .ref (qa 47), .ref (qa 48), .ref (qa 49), .ref (qa 50), .ref (qa 51), .ref (qa 52), .int 0, .int (-1), .int 0, .int 0])), ((qa 46), .inl (k 1, 6, .inl ga0_x8)), ((qa 47), .inl (k 1, 6, .inl ga1_x9)), ((qa 48), .inl (k 1, 6, .inl ga2_x10)), ((qa 49), .inl (k 1, 6, .inl ga3_x11)), ((qa 50), .inl (k 1, 10, .inl ga4_x12)), ((qa 51), .inl (k 1, 10, .inl ga5_x13)), ((qa 52), .inl (k 1, 10, .inl ga6_x14))] H := hP
  have hD : va_D A [((qa 0), .inr (9, [.ref (qa 1), .ref (qa 6), .ref (qa 9), .ref (qa 17), .ref (qa 18), .ref (qa 19), .ref (qa 20), .ref (qa 23), .ref (qa 25), .ref (qa 28), .ref (qa 29), .ref (qa 30), .ref (qa 31), .int 0, .int 0, .int 0])), ((qa 18), .inl (k 4, 4, .inr (.inr (.inr (.inr (va_up (va_up (va_up (va_up (fun _ => none) 0 (some (qa 37))) 1 (some (qa 45))) 2 (some (qa 53))) 3 (some (qa 61)))))))), ((qa 45), .inr (8, [.ref (qa 46), .ref (qa 47), .ref (qa 48), .ref (qa 49), .ref (qa 50), .ref (qa 51), .ref (qa 52), .int 0, .int (-1), .int 0, .int 0])), ((qa 46), .inl (k 1, 6, .inl ga0_x8)), ((qa 47), .inl (k 1, 6, .inl ga1_x9)), ((qa 48), .inl (k 1, 6, .inl ga2_x10)), ((qa 49), .inl (k 1, 6, .inl ga3_x11)), ((qa 50), .inl (k 1, 10, .inl ga4_x12)), ((qa 51), .inl (k 1, 10, .inl ga5_x13)), ((qa 52), .inl (k 1, 10, .inl ga6_x14))] := hD
  refine lv_aload_n hx hb dX12_mark_73 rfl (lv_at hl 0 rfl) ?_
  refine va_get (ci := 9) (v := .ref (qa 18)) (C := RX12) (T := TX12) (N := 16) hx hb hts inX12 hown hK hP 0 rfl rfl 4 (by decide) lf46 (fun _ h9 => h9) rfl dX12_mark_74 ?_
  refine lv_iload_n hx hb dX12_mark_77 rfl (lv_at hl 1 rfl) ?_
  refine va_aldq hx hb hK hP 1 4 rfl rfl (show ¬ (_ ∨ _) by decide) dX12_mark_78 ?_
  refine p_topV (v := .ref (qa 45)) rfl ?_
  refine lv_iconst (v := 1) hx hb dX12_mark_79 (by decide) ?_
  refine va_put (ci := 8) (v := .int 1) (ty := .boolean) (C := RX9) (T := TX9) (N := 11) hx hb hts inX9 tyX9 tyX9_ok nmX9 hown hK hP hD hS 2 rfl rfl 10 (by decide) lf120 (fun _ h9 => h9) rfl (by decide +kernel) rfl rfl (Nat.le_of_ble_eq_true rfl) dX12_mark_80 (fun H locs hP hD hS => ?_)
  have hP : va_P D vwCl [((qa 0), .inr (9, [.ref (qa 1), .ref (qa 6), .ref (qa 9), .ref (qa 17), .ref (qa 18), .ref (qa 19), .ref (qa 20), .ref (qa 23), .ref (qa 25), .ref (qa 28), .ref (qa 29), .ref (qa 30), .ref (qa 31), .int 0, .int 0, .int 0])), ((qa 18), .inl (k 4, 4, .inr (.inr (.inr (.inr (va_up (va_up (va_up (va_up (fun _ => none) 0 (some (qa 37))) 1 (some (qa 45))) 2 (some (qa 53))) 3 (some (qa 61)))))))), ((qa 45), .inr (8, [.ref (qa 46), .ref (qa 47), .ref (qa 48), .ref (qa 49), .ref (qa 50), .ref (qa 51), .ref (qa 52), .int 0, .int (-1), .int 0, .int 1])), ((qa 46), .inl (k 1, 6, .inl ga0_x8)), ((qa 47), .inl (k 1, 6, .inl ga1_x9)), ((qa 48), .inl (k 1, 6, .inl ga2_x10)), ((qa 49), .inl (k 1, 6, .inl ga3_x11)), ((qa 50), .inl (k 1, 10, .inl ga4_x12)), ((qa 51), .inl (k 1, 10, .inl ga5_x13)), ((qa 52), .inl (k 1, 10, .inl ga6_x14))] H := hP
  have hD : va_D A [((qa 0), .inr (9, [.ref (qa 1), .ref (qa 6), .ref (qa 9), .ref (qa 17), .ref (qa 18), .ref (qa 19), .ref (qa 20), .ref (qa 23), .ref (qa 25), .ref (qa 28), .ref (qa 29), .ref (qa 30), .ref (qa 31), .int 0, .int 0, .int 0])), ((qa 18), .inl (k 4, 4, .inr (.inr (.inr (.inr (va_up (va_up (va_up (va_up (fun _ => none) 0 (some (qa 37))) 1 (some (qa 45))) 2 (some (qa 53))) 3 (some (qa 61)))))))), ((qa 45), .inr (8, [.ref (qa 46), .ref (qa 47), .ref (qa 48), .ref (qa 49), .ref (qa 50), .ref (qa 51), .ref (qa 52), .int 0, .int (-1), .int 0, .int 1])), ((qa 46), .inl (k 1, 6, .inl ga0_x8)), ((qa 47), .inl (k 1, 6, .inl ga1_x9)), ((qa 48), .inl (k 1, 6, .inl ga2_x10)), ((qa 49), .inl (k 1, 6, .inl ga3_x11)), ((qa 50), .inl (k 1, 10, .inl ga4_x12)), ((qa 51), .inl (k 1, 10, .inl ga5_x13)), ((qa 52), .inl (k 1, 10, .inl ga6_x14))] := hD
  refine lv_iconst (v := 1) hx hb dX12_mark_83 (by decide) ?_
  exact hret _ _ _ _ _ _ 1 () (by decide) (by decide) dX12_mark_84 rfl rfl (hP.sub [] rfl) (hD.sub [] (by decide) rfl) hS
def pw_mark_2_1 : List Cond := .code yX12_mark cX12_mark 3 (some .boolean) :: ([.fieldLink RX12 46 "RiverVows" "marks" "[LRiverVows$Standing;", .fieldLink RX12 120 "RiverVows$Standing" "laid" "Z"] ++ wsX120 ++ wsX90)
set_option maxHeartbeats 4000000 in
set_option maxRecDepth 100000 in
theorem c_mark_2_1 (l : Launch) (D : va_G) (k : Nat → ClassId) (sz : Nat) (qa : Nat → Nat)  : pMi l yX12_mark pw_mark_2_1 ({ frames := 0, cells := 0, slots := 0, locals := 0 }) D k [.ref (qa 0), .int 2, .int 1] [((qa 0), .inr (9, [.ref (qa 1), .ref (qa 6), .ref (qa 9), .ref (qa 17), .ref (qa 18), .ref (qa 19), .ref (qa 20), .ref (qa 23), .ref (qa 25), .ref (qa 28), .ref (qa 29), .ref (qa 30), .ref (qa 31), .int 0, .int 0, .int 0])), ((qa 18), .inl (k 4, 4, .inr (.inr (.inr (.inr (va_up (va_up (va_up (va_up (fun _ => none) 0 (some (qa 37))) 1 (some (qa 45))) 2 (some (qa 53))) 3 (some (qa 61)))))))), ((qa 53), .inr (8, [.ref (qa 54), .ref (qa 55), .ref (qa 56), .ref (qa 57), .ref (qa 58), .ref (qa 59), .ref (qa 60), .int 0, .int (-1), .int 0, .int 0]))] sz (S := Unit) (fun r u => r = 0) (fun u => []) 0 0 := by
  refine p_ofi (cc := cX12_mark) (maxL := 3) (rt := .boolean) (by decide) rfl (Nat.le_of_ble_eq_true rfl) ?_
  intro p e s m below meth c hx hb hml hown hts hK hN A hA hP hD hS Q hret ls hl
  have hl : lv_has ls 3 [(0, .ref (qa 0)), (1, .int 2), (2, .int 1)] := hl
  have lf46 := hts (.fieldLink RX12 46 "RiverVows" "marks" "[LRiverVows$Standing;") (by decide +kernel)
  have inX12 : ∀ w ∈ wsX120, w ∈ pw_mark_2_1 := by decide +kernel
  have lf120 := hts (.fieldLink RX12 120 "RiverVows$Standing" "laid" "Z") (by decide +kernel)
  have inX9 : ∀ w ∈ wsX90, w ∈ pw_mark_2_1 := by decide +kernel
  refine lv_iload_n hx hb dX12_mark_0 rfl (lv_at hl 1 rfl) ?_
  refine lv_if_lt (tgt := 25) hx hb dX12_mark_1 (by decide) (fun h9 => absurd h9 (by decide)) (fun cx1 => ?_)
  refine lv_iload_n hx hb dX12_mark_4 rfl (lv_at hl 1 rfl) ?_
  refine lv_iconst (v := 4) hx hb dX12_mark_5 (by decide) ?_
  refine lv_icmp_ge (tgt := 25) hx hb dX12_mark_6 (by decide) (fun h9 => absurd h9 (by decide)) (fun cx2 => ?_)
  refine lv_iload_n hx hb dX12_mark_9 rfl (lv_at hl 2 rfl) ?_
  refine lv_if_eq (tgt := 27) hx hb dX12_mark_10 (by decide) (fun h9 => absurd h9 (by decide)) (fun cx3 => ?_)
  refine lv_aload_n hx hb dX12_mark_13 rfl (lv_at hl 0 rfl) ?_
  refine va_get (ci := 9) (v := .ref (qa 18)) (C := RX12) (T := TX12) (N := 16) hx hb hts inX12 hown hK hP 0 rfl rfl 4 (by decide) lf46 (fun _ h9 => h9) rfl dX12_mark_14 ?_
  refine lv_iload_n hx hb dX12_mark_17 rfl (lv_at hl 1 rfl) ?_
  refine va_aldq hx hb hK hP 1 4 rfl rfl (show ¬ (_ ∨ _) by decide) dX12_mark_18 ?_
  refine p_topV (v := .ref (qa 53)) rfl ?_
  refine va_get (ci := 8) (v := .int 0) (C := RX9) (T := TX9) (N := 11) hx hb hts inX9 hown hK hP 2 rfl rfl 10 (by decide) lf120 (fun _ h9 => h9) rfl dX12_mark_19 ?_
  refine lv_if_ne (tgt := 27) hx hb dX12_mark_22 (by decide) (fun h9 => absurd (by decide) h9) (fun cx4 => ?_)
  refine lv_iconst (v := 0) hx hb dX12_mark_25 (by decide) ?_
  exact hret _ _ _ _ _ _ 0 () (by decide) (by decide) dX12_mark_26 rfl rfl (hP.sub [] rfl) (hD.sub [] (by decide) rfl) hS
def pw_mark_2_0 : List Cond := .code yX12_mark cX12_mark 3 (some .boolean) :: ([.fieldLink RX12 46 "RiverVows" "marks" "[LRiverVows$Standing;", .fieldLink RX12 38 "RiverVows" "now" "LRiverVows$Standing;", .code yX9_takeAll cX9_takeAll 2 none, .code yX9_takeBonds cX9_takeBonds 2 none, .fieldLink RX9 9 "RiverVows$Standing" "husband" "[I", .methodLink RX9 43 arraycopyName, .native arraycopyName, .static arraycopyName, .initialized "java/lang/System", .fieldLink RX9 15 "RiverVows$Standing" "owed" "[I", .fieldLink RX9 18 "RiverVows$Standing" "silt" "[I", .fieldLink RX9 37 "RiverVows$Standing" "passed" "I", .methodLink RX9 49 yX9_takeBonds, .instanceMethod yX9_takeBonds, .selects RX9 yX9_takeBonds yX9_takeBonds, .initialized RX9, .fieldLink RX9 21 "RiverVows$Standing" "wants" "[I", .fieldLink RX9 24 "RiverVows$Standing" "toldRiver" "[I", .fieldLink RX9 27 "RiverVows$Standing" "toldSeason" "[I", .fieldLink RX9 30 "RiverVows$Standing" "toldFlow" "[I", .fieldLink RX9 33 "RiverVows$Standing" "heirs" "I", .fieldLink RX9 40 "RiverVows$Standing" "told" "I", .methodLink RX12 282 yX9_takeAll, .instanceMethod yX9_takeAll, .selects RX9 yX9_takeAll yX9_takeAll, .fieldLink RX12 120 "RiverVows$Standing" "laid" "Z"] ++ wsX120 ++ wsX90)
set_option maxRecDepth 20000 in
theorem pg_mark_2_0_0 : GoodIn pw_mark_2_0 (wsV RX12 282 RX9 yX9_takeAll pw_Standing_takeAll) := goodIn_sub (by decide +kernel) (by decide +kernel)
set_option maxHeartbeats 4000000 in
set_option maxRecDepth 100000 in
theorem c_mark_2_0 (l : Launch) (D : va_G) (k : Nat → ClassId) (sz : Nat) (qa : Nat → Nat) (fm : Nat → Int32) (fn : Nat → Int32)  : pMi l yX12_mark pw_mark_2_0 ({ frames := 3, cells := 0, slots := 0, locals := 102 }) D k [.ref (qa 0), .int 2, .int 0] [((qa 0), .inr (9, [.ref (qa 1), .ref (qa 6), .ref (qa 9), .ref (qa 17), .ref (qa 18), .ref (qa 19), .ref (qa 20), .ref (qa 23), .ref (qa 25), .ref (qa 28), .ref (qa 29), .ref (qa 30), .ref (qa 31), .int 0, .int 0, .int 0])), ((qa 18), .inl (k 4, 4, .inr (.inr (.inr (.inr (va_up (va_up (va_up (va_up (fun _ => none) 0 (some (qa 37))) 1 (some (qa 45))) 2 (some (qa 53))) 3 (some (qa 61)))))))), ((qa 53), .inr (8, [.ref (qa 54), .ref (qa 55), .ref (qa 56), .ref (qa 57), .ref (qa 58), .ref (qa 59), .ref (qa 60), .int 0, .int (-1), .int 0, .int 0])), ((qa 54), .inl (k 1, 6, .inl fm)), ((qa 55), .inl (k 1, 6, .inl (fun _ => 0))), ((qa 56), .inl (k 1, 6, .inl (fun _ => 0))), ((qa 57), .inl (k 1, 6, .inl (fun _ => 0))), ((qa 58), .inl (k 1, 10, .inl (fun _ => 0))), ((qa 59), .inl (k 1, 10, .inl (fun _ => 0))), ((qa 60), .inl (k 1, 10, .inl (fun _ => 0))), ((qa 9), .inr (8, [.ref (qa 10), .ref (qa 11), .ref (qa 12), .ref (qa 13), .ref (qa 14), .ref (qa 15), .ref (qa 16), .int 0, .int (-1), .int 0, .int 0])), ((qa 10), .inl (k 1, 6, .inl fn)), ((qa 11), .inl (k 1, 6, .inl (fun _ => 0))), ((qa 12), .inl (k 1, 6, .inl (fun _ => 0))), ((qa 13), .inl (k 1, 6, .inl (fun _ => 0))), ((qa 14), .inl (k 1, 10, .inl (fun _ => 0))), ((qa 15), .inl (k 1, 10, .inl (fun _ => 0))), ((qa 16), .inl (k 1, 10, .inl (fun _ => 0)))] sz (S := Unit) (fun r u => r = 1) (fun u => []) 0 0 := by
  refine p_ofi (cc := cX12_mark) (maxL := 3) (rt := .boolean) (by decide) rfl (Nat.le_of_ble_eq_true rfl) ?_
  intro p e s m below meth c hx hb hml hown hts hK hN A hA hP hD hS Q hret ls hl
  have hl : lv_has ls 3 [(0, .ref (qa 0)), (1, .int 2), (2, .int 0)] := hl
  have lf46 := hts (.fieldLink RX12 46 "RiverVows" "marks" "[LRiverVows$Standing;") (by decide +kernel)
  have inX12 : ∀ w ∈ wsX120, w ∈ pw_mark_2_0 := by decide +kernel
  have lf38 := hts (.fieldLink RX12 38 "RiverVows" "now" "LRiverVows$Standing;") (by decide +kernel)
  have lf120 := hts (.fieldLink RX12 120 "RiverVows$Standing" "laid" "Z") (by decide +kernel)
  have inX9 : ∀ w ∈ wsX90, w ∈ pw_mark_2_0 := by decide +kernel
  refine lv_iload_n hx hb dX12_mark_0 rfl (lv_at hl 1 rfl) ?_
  refine lv_if_lt (tgt := 25) hx hb dX12_mark_1 (by decide) (fun h9 => absurd h9 (by decide)) (fun cx1 => ?_)
  refine lv_iload_n hx hb dX12_mark_4 rfl (lv_at hl 1 rfl) ?_
  refine lv_iconst (v := 4) hx hb dX12_mark_5 (by decide) ?_
  refine lv_icmp_ge (tgt := 25) hx hb dX12_mark_6 (by decide) (fun h9 => absurd h9 (by decide)) (fun cx2 => ?_)
  refine lv_iload_n hx hb dX12_mark_9 rfl (lv_at hl 2 rfl) ?_
  refine lv_if_eq (tgt := 27) hx hb dX12_mark_10 (by decide) (fun cx3 => ?_) (fun h9 => absurd (by decide) h9)
  refine lv_iload_n hx hb dX12_mark_27 rfl (lv_at hl 2 rfl) ?_
  refine lv_if_eq (tgt := 60) hx hb dX12_mark_28 (by decide) (fun cx4 => ?_) (fun h9 => absurd (by decide) h9)
  refine lv_aload_n hx hb dX12_mark_60 rfl (lv_at hl 0 rfl) ?_
  refine va_get (ci := 9) (v := .ref (qa 18)) (C := RX12) (T := TX12) (N := 16) hx hb hts inX12 hown hK hP 0 rfl rfl 4 (by decide) lf46 (fun _ h9 => h9) rfl dX12_mark_61 ?_
  refine lv_iload_n hx hb dX12_mark_64 rfl (lv_at hl 1 rfl) ?_
  refine va_aldq hx hb hK hP 1 4 rfl rfl (show ¬ (_ ∨ _) by decide) dX12_mark_65 ?_
  refine p_topV (v := .ref (qa 53)) rfl ?_
  refine lv_aload_n hx hb dX12_mark_66 rfl (lv_at hl 0 rfl) ?_
  refine va_get (ci := 9) (v := .ref (qa 9)) (C := RX12) (T := TX12) (N := 16) hx hb hts inX12 hown hK hP 0 rfl rfl 2 (by decide) lf38 (fun _ h9 => h9) rfl dX12_mark_67 ?_
  refine p_jv (wr := [((qa 0), .inr (9, [.ref (qa 1), .ref (qa 6), .ref (qa 9), .ref (qa 17), .ref (qa 18), .ref (qa 19), .ref (qa 20), .ref (qa 23), .ref (qa 25), .ref (qa 28), .ref (qa 29), .ref (qa 30), .ref (qa 31), .int 0, .int 0, .int 0])), ((qa 18), .inl (k 4, 4, .inr (.inr (.inr (.inr (va_up (va_up (va_up (va_up (fun _ => none) 0 (some (qa 37))) 1 (some (qa 45))) 2 (some (qa 53))) 3 (some (qa 61))))))))]) (va_runV (As := [.ref (qa 9)]) (rest := []) ⟨hx, hb, hml, hown, hts⟩ (c_Standing_takeAll l D k _ (qa 53) (qa 54) (qa 55) (qa 56) (qa 57) (qa 58) (qa 59) (qa 60) (qa 9) (qa 10) (qa 11) (qa 12) (qa 13) (qa 14) (qa 15) (qa 16) (.int 0) (.int (-1)) (.int 0) (.int 0) 0 (-1) 0 (.int 0) fm (fun _ => 0) (fun _ => 0) (fun _ => 0) (fun _ => 0) (fun _ => 0) (fun _ => 0) fn (fun _ => 0) (fun _ => 0) (fun _ => 0) (fun _ => 0) (fun _ => 0) (fun _ => 0)) (cwV 1 hts pg_mark_2_0_0 rfl rfl rfl (by decide +kernel) ⟨Nat.le_of_ble_eq_true rfl, Nat.le_of_ble_eq_true rfl⟩) (pV hK hN hP hD [2, 3, 4, 5, 6, 7, 8, 9, 10, 11, 12, 13, 14, 15, 16, 17] rfl (by decide) rfl 2 rfl rfl) rfl rfl hl.1 rfl (lv_room (Nat.le_of_ble_eq_true rfl)) dX12_mark_70 ⟨by decide, by decide⟩) hP hD hS hA [2, 3, 4, 5, 6, 7, 8, 9, 10, 11, 12, 13, 14, 15, 16, 17] [0, 1] rfl rfl (by decide) (by decide) (fun ux5 H locs wx6 hP hD hS => ?_)
  obtain ⟨ga0_x8, ga1_x9, ga2_x10, ga3_x11, ga4_x12, ga5_x13, ga6_x14⟩ := ux5
  have hP : va_P D vwCl [((qa 0), .inr (9, [.ref (qa 1), .ref (qa 6), .ref (qa 9), .ref (qa 17), .ref (qa 18), .ref (qa 19), .ref (qa 20), .ref (qa 23), .ref (qa 25), .ref (qa 28), .ref (qa 29), .ref (qa 30), .ref (qa 31), .int 0, .int 0, .int 0])), ((qa 18), .inl (k 4, 4, .inr (.inr (.inr (.inr (va_up (va_up (va_up (va_up (fun _ => none) 0 (some (qa 37))) 1 (some (qa 45))) 2 (some (qa 53))) 3 (some (qa 61)))))))), ((qa 53), .inr (8, [.ref (qa 54), .ref (qa 55), .ref (qa 56), .ref (qa 57), .ref (qa 58), .ref (qa 59), .ref (qa 60), .int 0, .int (-1), .int 0, .int 0])), ((qa 54), .inl (k 1, 6, .inl ga0_x8)), ((qa 55), .inl (k 1, 6, .inl ga1_x9)), ((qa 56), .inl (k 1, 6, .inl ga2_x10)), ((qa 57), .inl (k 1, 6, .inl ga3_x11)), ((qa 58), .inl (k 1, 10, .inl ga4_x12)), ((qa 59), .inl (k 1, 10, .inl ga5_x13)), ((qa 60), .inl (k 1, 10, .inl ga6_x14))] H := hP
  have hD : va_D A [((qa 0), .inr (9, [.ref (qa 1), .ref (qa 6), .ref (qa 9), .ref (qa 17), .ref (qa 18), .ref (qa 19), .ref (qa 20), .ref (qa 23), .ref (qa 25), .ref (qa 28), .ref (qa 29), .ref (qa 30), .ref (qa 31), .int 0, .int 0, .int 0])), ((qa 18), .inl (k 4, 4, .inr (.inr (.inr (.inr (va_up (va_up (va_up (va_up (fun _ => none) 0 (some (qa 37))) 1 (some (qa 45))) 2 (some (qa 53))) 3 (some (qa 61)))))))), ((qa 53), .inr (8, [.ref (qa 54), .ref (qa 55), .ref (qa 56), .ref (qa 57), .ref (qa 58), .ref (qa 59), .ref (qa 60), .int 0, .int (-1), .int 0, .int 0])), ((qa 54), .inl (k 1, 6, .inl ga0_x8)), ((qa 55), .inl (k 1, 6, .inl ga1_x9)), ((qa 56), .inl (k 1, 6, .inl ga2_x10)), ((qa 57), .inl (k 1, 6, .inl ga3_x11)), ((qa 58), .inl (k 1, 10, .inl ga4_x12)), ((qa 59), .inl (k 1, 10, .inl ga5_x13)), ((qa 60), .inl (k 1, 10, .inl ga6_x14))] := hD
  refine lv_aload_n hx hb dX12_mark_73 rfl (lv_at hl 0 rfl) ?_
  refine va_get (ci := 9) (v := .ref (qa 18)) (C := RX12) (T := TX12) (N := 16) hx hb hts inX12 hown hK hP 0 rfl rfl 4 (by decide) lf46 (fun _ h9 => h9) rfl dX12_mark_74 ?_
  refine lv_iload_n hx hb dX12_mark_77 rfl (lv_at hl 1 rfl) ?_
  refine va_aldq hx hb hK hP 1 4 rfl rfl (show ¬ (_ ∨ _) by decide) dX12_mark_78 ?_
  refine p_topV (v := .ref (qa 53)) rfl ?_
  refine lv_iconst (v := 1) hx hb dX12_mark_79 (by decide) ?_
  refine va_put (ci := 8) (v := .int 1) (ty := .boolean) (C := RX9) (T := TX9) (N := 11) hx hb hts inX9 tyX9 tyX9_ok nmX9 hown hK hP hD hS 2 rfl rfl 10 (by decide) lf120 (fun _ h9 => h9) rfl (by decide +kernel) rfl rfl (Nat.le_of_ble_eq_true rfl) dX12_mark_80 (fun H locs hP hD hS => ?_)
  have hP : va_P D vwCl [((qa 0), .inr (9, [.ref (qa 1), .ref (qa 6), .ref (qa 9), .ref (qa 17), .ref (qa 18), .ref (qa 19), .ref (qa 20), .ref (qa 23), .ref (qa 25), .ref (qa 28), .ref (qa 29), .ref (qa 30), .ref (qa 31), .int 0, .int 0, .int 0])), ((qa 18), .inl (k 4, 4, .inr (.inr (.inr (.inr (va_up (va_up (va_up (va_up (fun _ => none) 0 (some (qa 37))) 1 (some (qa 45))) 2 (some (qa 53))) 3 (some (qa 61)))))))), ((qa 53), .inr (8, [.ref (qa 54), .ref (qa 55), .ref (qa 56), .ref (qa 57), .ref (qa 58), .ref (qa 59), .ref (qa 60), .int 0, .int (-1), .int 0, .int 1])), ((qa 54), .inl (k 1, 6, .inl ga0_x8)), ((qa 55), .inl (k 1, 6, .inl ga1_x9)), ((qa 56), .inl (k 1, 6, .inl ga2_x10)), ((qa 57), .inl (k 1, 6, .inl ga3_x11)), ((qa 58), .inl (k 1, 10, .inl ga4_x12)), ((qa 59), .inl (k 1, 10, .inl ga5_x13)), ((qa 60), .inl (k 1, 10, .inl ga6_x14))] H := hP
  have hD : va_D A [((qa 0), .inr (9, [.ref (qa 1), .ref (qa 6), .ref (qa 9), .ref (qa 17), .ref (qa 18), .ref (qa 19), .ref (qa 20), .ref (qa 23), .ref (qa 25), .ref (qa 28), .ref (qa 29), .ref (qa 30), .ref (qa 31), .int 0, .int 0, .int 0])), ((qa 18), .inl (k 4, 4, .inr (.inr (.inr (.inr (va_up (va_up (va_up (va_up (fun _ => none) 0 (some (qa 37))) 1 (some (qa 45))) 2 (some (qa 53))) 3 (some (qa 61)))))))), ((qa 53), .inr (8, [.ref (qa 54), .ref (qa 55), .ref (qa 56), .ref (qa 57), .ref (qa 58), .ref (qa 59), .ref (qa 60), .int 0, .int (-1), .int 0, .int 1])), ((qa 54), .inl (k 1, 6, .inl ga0_x8)), ((qa 55), .inl (k 1, 6, .inl ga1_x9)), ((qa 56), .inl (k 1, 6, .inl ga2_x10)), ((qa 57), .inl (k 1, 6, .inl ga3_x11)), ((qa 58), .inl (k 1, 10, .inl ga4_x12)), ((qa 59), .inl (k 1, 10, .inl ga5_x13)), ((qa 60), .inl (k 1, 10, .inl ga6_x14))] := hD
  refine lv_iconst (v := 1) hx hb dX12_mark_83 (by decide) ?_
  exact hret _ _ _ _ _ _ 1 () (by decide) (by decide) dX12_mark_84 rfl rfl (hP.sub [] rfl) (hD.sub [] (by decide) rfl) hS
def pw_mark_3_1 : List Cond := .code yX12_mark cX12_mark 3 (some .boolean) :: ([.fieldLink RX12 46 "RiverVows" "marks" "[LRiverVows$Standing;", .fieldLink RX12 120 "RiverVows$Standing" "laid" "Z"] ++ wsX120 ++ wsX90)
set_option maxHeartbeats 4000000 in
set_option maxRecDepth 100000 in
theorem c_mark_3_1 (l : Launch) (D : va_G) (k : Nat → ClassId) (sz : Nat) (qa : Nat → Nat)  : pMi l yX12_mark pw_mark_3_1 ({ frames := 0, cells := 0, slots := 0, locals := 0 }) D k [.ref (qa 0), .int 3, .int 1] [((qa 0), .inr (9, [.ref (qa 1), .ref (qa 6), .ref (qa 9), .ref (qa 17), .ref (qa 18), .ref (qa 19), .ref (qa 20), .ref (qa 23), .ref (qa 25), .ref (qa 28), .ref (qa 29), .ref (qa 30), .ref (qa 31), .int 0, .int 0, .int 0])), ((qa 18), .inl (k 4, 4, .inr (.inr (.inr (.inr (va_up (va_up (va_up (va_up (fun _ => none) 0 (some (qa 37))) 1 (some (qa 45))) 2 (some (qa 53))) 3 (some (qa 61)))))))), ((qa 61), .inr (8, [.ref (qa 62), .ref (qa 63), .ref (qa 64), .ref (qa 65), .ref (qa 66), .ref (qa 67), .ref (qa 68), .int 0, .int (-1), .int 0, .int 0]))] sz (S := Unit) (fun r u => r = 0) (fun u => []) 0 0 := by
  refine p_ofi (cc := cX12_mark) (maxL := 3) (rt := .boolean) (by decide) rfl (Nat.le_of_ble_eq_true rfl) ?_
  intro p e s m below meth c hx hb hml hown hts hK hN A hA hP hD hS Q hret ls hl
  have hl : lv_has ls 3 [(0, .ref (qa 0)), (1, .int 3), (2, .int 1)] := hl
  have lf46 := hts (.fieldLink RX12 46 "RiverVows" "marks" "[LRiverVows$Standing;") (by decide +kernel)
  have inX12 : ∀ w ∈ wsX120, w ∈ pw_mark_3_1 := by decide +kernel
  have lf120 := hts (.fieldLink RX12 120 "RiverVows$Standing" "laid" "Z") (by decide +kernel)
  have inX9 : ∀ w ∈ wsX90, w ∈ pw_mark_3_1 := by decide +kernel
  refine lv_iload_n hx hb dX12_mark_0 rfl (lv_at hl 1 rfl) ?_
  refine lv_if_lt (tgt := 25) hx hb dX12_mark_1 (by decide) (fun h9 => absurd h9 (by decide)) (fun cx1 => ?_)
  refine lv_iload_n hx hb dX12_mark_4 rfl (lv_at hl 1 rfl) ?_
  refine lv_iconst (v := 4) hx hb dX12_mark_5 (by decide) ?_
  refine lv_icmp_ge (tgt := 25) hx hb dX12_mark_6 (by decide) (fun h9 => absurd h9 (by decide)) (fun cx2 => ?_)
  refine lv_iload_n hx hb dX12_mark_9 rfl (lv_at hl 2 rfl) ?_
  refine lv_if_eq (tgt := 27) hx hb dX12_mark_10 (by decide) (fun h9 => absurd h9 (by decide)) (fun cx3 => ?_)
  refine lv_aload_n hx hb dX12_mark_13 rfl (lv_at hl 0 rfl) ?_
  refine va_get (ci := 9) (v := .ref (qa 18)) (C := RX12) (T := TX12) (N := 16) hx hb hts inX12 hown hK hP 0 rfl rfl 4 (by decide) lf46 (fun _ h9 => h9) rfl dX12_mark_14 ?_
  refine lv_iload_n hx hb dX12_mark_17 rfl (lv_at hl 1 rfl) ?_
  refine va_aldq hx hb hK hP 1 4 rfl rfl (show ¬ (_ ∨ _) by decide) dX12_mark_18 ?_
  refine p_topV (v := .ref (qa 61)) rfl ?_
  refine va_get (ci := 8) (v := .int 0) (C := RX9) (T := TX9) (N := 11) hx hb hts inX9 hown hK hP 2 rfl rfl 10 (by decide) lf120 (fun _ h9 => h9) rfl dX12_mark_19 ?_
  refine lv_if_ne (tgt := 27) hx hb dX12_mark_22 (by decide) (fun h9 => absurd (by decide) h9) (fun cx4 => ?_)
  refine lv_iconst (v := 0) hx hb dX12_mark_25 (by decide) ?_
  exact hret _ _ _ _ _ _ 0 () (by decide) (by decide) dX12_mark_26 rfl rfl (hP.sub [] rfl) (hD.sub [] (by decide) rfl) hS
def pw_mark_3_0 : List Cond := .code yX12_mark cX12_mark 3 (some .boolean) :: ([.fieldLink RX12 46 "RiverVows" "marks" "[LRiverVows$Standing;", .fieldLink RX12 38 "RiverVows" "now" "LRiverVows$Standing;", .code yX9_takeAll cX9_takeAll 2 none, .code yX9_takeBonds cX9_takeBonds 2 none, .fieldLink RX9 9 "RiverVows$Standing" "husband" "[I", .methodLink RX9 43 arraycopyName, .native arraycopyName, .static arraycopyName, .initialized "java/lang/System", .fieldLink RX9 15 "RiverVows$Standing" "owed" "[I", .fieldLink RX9 18 "RiverVows$Standing" "silt" "[I", .fieldLink RX9 37 "RiverVows$Standing" "passed" "I", .methodLink RX9 49 yX9_takeBonds, .instanceMethod yX9_takeBonds, .selects RX9 yX9_takeBonds yX9_takeBonds, .initialized RX9, .fieldLink RX9 21 "RiverVows$Standing" "wants" "[I", .fieldLink RX9 24 "RiverVows$Standing" "toldRiver" "[I", .fieldLink RX9 27 "RiverVows$Standing" "toldSeason" "[I", .fieldLink RX9 30 "RiverVows$Standing" "toldFlow" "[I", .fieldLink RX9 33 "RiverVows$Standing" "heirs" "I", .fieldLink RX9 40 "RiverVows$Standing" "told" "I", .methodLink RX12 282 yX9_takeAll, .instanceMethod yX9_takeAll, .selects RX9 yX9_takeAll yX9_takeAll, .fieldLink RX12 120 "RiverVows$Standing" "laid" "Z"] ++ wsX120 ++ wsX90)
set_option maxRecDepth 20000 in
theorem pg_mark_3_0_0 : GoodIn pw_mark_3_0 (wsV RX12 282 RX9 yX9_takeAll pw_Standing_takeAll) := goodIn_sub (by decide +kernel) (by decide +kernel)
set_option maxHeartbeats 4000000 in
set_option maxRecDepth 100000 in
theorem c_mark_3_0 (l : Launch) (D : va_G) (k : Nat → ClassId) (sz : Nat) (qa : Nat → Nat) (fm : Nat → Int32) (fn : Nat → Int32)  : pMi l yX12_mark pw_mark_3_0 ({ frames := 3, cells := 0, slots := 0, locals := 102 }) D k [.ref (qa 0), .int 3, .int 0] [((qa 0), .inr (9, [.ref (qa 1), .ref (qa 6), .ref (qa 9), .ref (qa 17), .ref (qa 18), .ref (qa 19), .ref (qa 20), .ref (qa 23), .ref (qa 25), .ref (qa 28), .ref (qa 29), .ref (qa 30), .ref (qa 31), .int 0, .int 0, .int 0])), ((qa 18), .inl (k 4, 4, .inr (.inr (.inr (.inr (va_up (va_up (va_up (va_up (fun _ => none) 0 (some (qa 37))) 1 (some (qa 45))) 2 (some (qa 53))) 3 (some (qa 61)))))))), ((qa 61), .inr (8, [.ref (qa 62), .ref (qa 63), .ref (qa 64), .ref (qa 65), .ref (qa 66), .ref (qa 67), .ref (qa 68), .int 0, .int (-1), .int 0, .int 0])), ((qa 62), .inl (k 1, 6, .inl fm)), ((qa 63), .inl (k 1, 6, .inl (fun _ => 0))), ((qa 64), .inl (k 1, 6, .inl (fun _ => 0))), ((qa 65), .inl (k 1, 6, .inl (fun _ => 0))), ((qa 66), .inl (k 1, 10, .inl (fun _ => 0))), ((qa 67), .inl (k 1, 10, .inl (fun _ => 0))), ((qa 68), .inl (k 1, 10, .inl (fun _ => 0))), ((qa 9), .inr (8, [.ref (qa 10), .ref (qa 11), .ref (qa 12), .ref (qa 13), .ref (qa 14), .ref (qa 15), .ref (qa 16), .int 0, .int (-1), .int 0, .int 0])), ((qa 10), .inl (k 1, 6, .inl fn)), ((qa 11), .inl (k 1, 6, .inl (fun _ => 0))), ((qa 12), .inl (k 1, 6, .inl (fun _ => 0))), ((qa 13), .inl (k 1, 6, .inl (fun _ => 0))), ((qa 14), .inl (k 1, 10, .inl (fun _ => 0))), ((qa 15), .inl (k 1, 10, .inl (fun _ => 0))), ((qa 16), .inl (k 1, 10, .inl (fun _ => 0)))] sz (S := Unit) (fun r u => r = 1) (fun u => []) 0 0 := by
  refine p_ofi (cc := cX12_mark) (maxL := 3) (rt := .boolean) (by decide) rfl (Nat.le_of_ble_eq_true rfl) ?_
  intro p e s m below meth c hx hb hml hown hts hK hN A hA hP hD hS Q hret ls hl
  have hl : lv_has ls 3 [(0, .ref (qa 0)), (1, .int 3), (2, .int 0)] := hl
  have lf46 := hts (.fieldLink RX12 46 "RiverVows" "marks" "[LRiverVows$Standing;") (by decide +kernel)
  have inX12 : ∀ w ∈ wsX120, w ∈ pw_mark_3_0 := by decide +kernel
  have lf38 := hts (.fieldLink RX12 38 "RiverVows" "now" "LRiverVows$Standing;") (by decide +kernel)
  have lf120 := hts (.fieldLink RX12 120 "RiverVows$Standing" "laid" "Z") (by decide +kernel)
  have inX9 : ∀ w ∈ wsX90, w ∈ pw_mark_3_0 := by decide +kernel
  refine lv_iload_n hx hb dX12_mark_0 rfl (lv_at hl 1 rfl) ?_
  refine lv_if_lt (tgt := 25) hx hb dX12_mark_1 (by decide) (fun h9 => absurd h9 (by decide)) (fun cx1 => ?_)
  refine lv_iload_n hx hb dX12_mark_4 rfl (lv_at hl 1 rfl) ?_
  refine lv_iconst (v := 4) hx hb dX12_mark_5 (by decide) ?_
  refine lv_icmp_ge (tgt := 25) hx hb dX12_mark_6 (by decide) (fun h9 => absurd h9 (by decide)) (fun cx2 => ?_)
  refine lv_iload_n hx hb dX12_mark_9 rfl (lv_at hl 2 rfl) ?_
  refine lv_if_eq (tgt := 27) hx hb dX12_mark_10 (by decide) (fun cx3 => ?_) (fun h9 => absurd (by decide) h9)
  refine lv_iload_n hx hb dX12_mark_27 rfl (lv_at hl 2 rfl) ?_
  refine lv_if_eq (tgt := 60) hx hb dX12_mark_28 (by decide) (fun cx4 => ?_) (fun h9 => absurd (by decide) h9)
  refine lv_aload_n hx hb dX12_mark_60 rfl (lv_at hl 0 rfl) ?_
  refine va_get (ci := 9) (v := .ref (qa 18)) (C := RX12) (T := TX12) (N := 16) hx hb hts inX12 hown hK hP 0 rfl rfl 4 (by decide) lf46 (fun _ h9 => h9) rfl dX12_mark_61 ?_
  refine lv_iload_n hx hb dX12_mark_64 rfl (lv_at hl 1 rfl) ?_
  refine va_aldq hx hb hK hP 1 4 rfl rfl (show ¬ (_ ∨ _) by decide) dX12_mark_65 ?_
  refine p_topV (v := .ref (qa 61)) rfl ?_
  refine lv_aload_n hx hb dX12_mark_66 rfl (lv_at hl 0 rfl) ?_
  refine va_get (ci := 9) (v := .ref (qa 9)) (C := RX12) (T := TX12) (N := 16) hx hb hts inX12 hown hK hP 0 rfl rfl 2 (by decide) lf38 (fun _ h9 => h9) rfl dX12_mark_67 ?_
  refine p_jv (wr := [((qa 0), .inr (9, [.ref (qa 1), .ref (qa 6), .ref (qa 9), .ref (qa 17), .ref (qa 18), .ref (qa 19), .ref (qa 20), .ref (qa 23), .ref (qa 25), .ref (qa 28), .ref (qa 29), .ref (qa 30), .ref (qa 31), .int 0, .int 0, .int 0])), ((qa 18), .inl (k 4, 4, .inr (.inr (.inr (.inr (va_up (va_up (va_up (va_up (fun _ => none) 0 (some (qa 37))) 1 (some (qa 45))) 2 (some (qa 53))) 3 (some (qa 61))))))))]) (va_runV (As := [.ref (qa 9)]) (rest := []) ⟨hx, hb, hml, hown, hts⟩ (c_Standing_takeAll l D k _ (qa 61) (qa 62) (qa 63) (qa 64) (qa 65) (qa 66) (qa 67) (qa 68) (qa 9) (qa 10) (qa 11) (qa 12) (qa 13) (qa 14) (qa 15) (qa 16) (.int 0) (.int (-1)) (.int 0) (.int 0) 0 (-1) 0 (.int 0) fm (fun _ => 0) (fun _ => 0) (fun _ => 0) (fun _ => 0) (fun _ => 0) (fun _ => 0) fn (fun _ => 0) (fun _ => 0) (fun _ => 0) (fun _ => 0) (fun _ => 0) (fun _ => 0)) (cwV 1 hts pg_mark_3_0_0 rfl rfl rfl (by decide +kernel) ⟨Nat.le_of_ble_eq_true rfl, Nat.le_of_ble_eq_true rfl⟩) (pV hK hN hP hD [2, 3, 4, 5, 6, 7, 8, 9, 10, 11, 12, 13, 14, 15, 16, 17] rfl (by decide) rfl 2 rfl rfl) rfl rfl hl.1 rfl (lv_room (Nat.le_of_ble_eq_true rfl)) dX12_mark_70 ⟨by decide, by decide⟩) hP hD hS hA [2, 3, 4, 5, 6, 7, 8, 9, 10, 11, 12, 13, 14, 15, 16, 17] [0, 1] rfl rfl (by decide) (by decide) (fun ux5 H locs wx6 hP hD hS => ?_)
  obtain ⟨ga0_x8, ga1_x9, ga2_x10, ga3_x11, ga4_x12, ga5_x13, ga6_x14⟩ := ux5
  have hP : va_P D vwCl [((qa 0), .inr (9, [.ref (qa 1), .ref (qa 6), .ref (qa 9), .ref (qa 17), .ref (qa 18), .ref (qa 19), .ref (qa 20), .ref (qa 23), .ref (qa 25), .ref (qa 28), .ref (qa 29), .ref (qa 30), .ref (qa 31), .int 0, .int 0, .int 0])), ((qa 18), .inl (k 4, 4, .inr (.inr (.inr (.inr (va_up (va_up (va_up (va_up (fun _ => none) 0 (some (qa 37))) 1 (some (qa 45))) 2 (some (qa 53))) 3 (some (qa 61)))))))), ((qa 61), .inr (8, [.ref (qa 62), .ref (qa 63), .ref (qa 64), .ref (qa 65), .ref (qa 66), .ref (qa 67), .ref (qa 68), .int 0, .int (-1), .int 0, .int 0])), ((qa 62), .inl (k 1, 6, .inl ga0_x8)), ((qa 63), .inl (k 1, 6, .inl ga1_x9)), ((qa 64), .inl (k 1, 6, .inl ga2_x10)), ((qa 65), .inl (k 1, 6, .inl ga3_x11)), ((qa 66), .inl (k 1, 10, .inl ga4_x12)), ((qa 67), .inl (k 1, 10, .inl ga5_x13)), ((qa 68), .inl (k 1, 10, .inl ga6_x14))] H := hP
  have hD : va_D A [((qa 0), .inr (9, [.ref (qa 1), .ref (qa 6), .ref (qa 9), .ref (qa 17), .ref (qa 18), .ref (qa 19), .ref (qa 20), .ref (qa 23), .ref (qa 25), .ref (qa 28), .ref (qa 29), .ref (qa 30), .ref (qa 31), .int 0, .int 0, .int 0])), ((qa 18), .inl (k 4, 4, .inr (.inr (.inr (.inr (va_up (va_up (va_up (va_up (fun _ => none) 0 (some (qa 37))) 1 (some (qa 45))) 2 (some (qa 53))) 3 (some (qa 61)))))))), ((qa 61), .inr (8, [.ref (qa 62), .ref (qa 63), .ref (qa 64), .ref (qa 65), .ref (qa 66), .ref (qa 67), .ref (qa 68), .int 0, .int (-1), .int 0, .int 0])), ((qa 62), .inl (k 1, 6, .inl ga0_x8)), ((qa 63), .inl (k 1, 6, .inl ga1_x9)), ((qa 64), .inl (k 1, 6, .inl ga2_x10)), ((qa 65), .inl (k 1, 6, .inl ga3_x11)), ((qa 66), .inl (k 1, 10, .inl ga4_x12)), ((qa 67), .inl (k 1, 10, .inl ga5_x13)), ((qa 68), .inl (k 1, 10, .inl ga6_x14))] := hD
  refine lv_aload_n hx hb dX12_mark_73 rfl (lv_at hl 0 rfl) ?_
  refine va_get (ci := 9) (v := .ref (qa 18)) (C := RX12) (T := TX12) (N := 16) hx hb hts inX12 hown hK hP 0 rfl rfl 4 (by decide) lf46 (fun _ h9 => h9) rfl dX12_mark_74 ?_
  refine lv_iload_n hx hb dX12_mark_77 rfl (lv_at hl 1 rfl) ?_
  refine va_aldq hx hb hK hP 1 4 rfl rfl (show ¬ (_ ∨ _) by decide) dX12_mark_78 ?_
  refine p_topV (v := .ref (qa 61)) rfl ?_
  refine lv_iconst (v := 1) hx hb dX12_mark_79 (by decide) ?_
  refine va_put (ci := 8) (v := .int 1) (ty := .boolean) (C := RX9) (T := TX9) (N := 11) hx hb hts inX9 tyX9 tyX9_ok nmX9 hown hK hP hD hS 2 rfl rfl 10 (by decide) lf120 (fun _ h9 => h9) rfl (by decide +kernel) rfl rfl (Nat.le_of_ble_eq_true rfl) dX12_mark_80 (fun H locs hP hD hS => ?_)
  have hP : va_P D vwCl [((qa 0), .inr (9, [.ref (qa 1), .ref (qa 6), .ref (qa 9), .ref (qa 17), .ref (qa 18), .ref (qa 19), .ref (qa 20), .ref (qa 23), .ref (qa 25), .ref (qa 28), .ref (qa 29), .ref (qa 30), .ref (qa 31), .int 0, .int 0, .int 0])), ((qa 18), .inl (k 4, 4, .inr (.inr (.inr (.inr (va_up (va_up (va_up (va_up (fun _ => none) 0 (some (qa 37))) 1 (some (qa 45))) 2 (some (qa 53))) 3 (some (qa 61)))))))), ((qa 61), .inr (8, [.ref (qa 62), .ref (qa 63), .ref (qa 64), .ref (qa 65), .ref (qa 66), .ref (qa 67), .ref (qa 68), .int 0, .int (-1), .int 0, .int 1])), ((qa 62), .inl (k 1, 6, .inl ga0_x8)), ((qa 63), .inl (k 1, 6, .inl ga1_x9)), ((qa 64), .inl (k 1, 6, .inl ga2_x10)), ((qa 65), .inl (k 1, 6, .inl ga3_x11)), ((qa 66), .inl (k 1, 10, .inl ga4_x12)), ((qa 67), .inl (k 1, 10, .inl ga5_x13)), ((qa 68), .inl (k 1, 10, .inl ga6_x14))] H := hP
  have hD : va_D A [((qa 0), .inr (9, [.ref (qa 1), .ref (qa 6), .ref (qa 9), .ref (qa 17), .ref (qa 18), .ref (qa 19), .ref (qa 20), .ref (qa 23), .ref (qa 25), .ref (qa 28), .ref (qa 29), .ref (qa 30), .ref (qa 31), .int 0, .int 0, .int 0])), ((qa 18), .inl (k 4, 4, .inr (.inr (.inr (.inr (va_up (va_up (va_up (va_up (fun _ => none) 0 (some (qa 37))) 1 (some (qa 45))) 2 (some (qa 53))) 3 (some (qa 61)))))))), ((qa 61), .inr (8, [.ref (qa 62), .ref (qa 63), .ref (qa 64), .ref (qa 65), .ref (qa 66), .ref (qa 67), .ref (qa 68), .int 0, .int (-1), .int 0, .int 1])), ((qa 62), .inl (k 1, 6, .inl ga0_x8)), ((qa 63), .inl (k 1, 6, .inl ga1_x9)), ((qa 64), .inl (k 1, 6, .inl ga2_x10)), ((qa 65), .inl (k 1, 6, .inl ga3_x11)), ((qa 66), .inl (k 1, 10, .inl ga4_x12)), ((qa 67), .inl (k 1, 10, .inl ga5_x13)), ((qa 68), .inl (k 1, 10, .inl ga6_x14))] := hD
  refine lv_iconst (v := 1) hx hb dX12_mark_83 (by decide) ?_
  exact hret _ _ _ _ _ _ 1 () (by decide) (by decide) dX12_mark_84 rfl rfl (hP.sub [] rfl) (hD.sub [] (by decide) rfl) hS
def pw_mark_lo : List Cond := .code yX12_mark cX12_mark 3 (some .boolean) :: ([])
set_option maxHeartbeats 4000000 in
set_option maxRecDepth 100000 in
theorem c_mark_lo (l : Launch) (D : va_G) (k : Nat → ClassId) (sz : Nat) (qa : Nat → Nat) (w : Int32) (b : Int32) (hw : w < 0) : pMi l yX12_mark pw_mark_lo ({ frames := 0, cells := 0, slots := 0, locals := 0 }) D k [.ref (qa 0), .int w, .int b] [((qa 0), .inr (9, [.ref (qa 1), .ref (qa 6), .ref (qa 9), .ref (qa 17), .ref (qa 18), .ref (qa 19), .ref (qa 20), .ref (qa 23), .ref (qa 25), .ref (qa 28), .ref (qa 29), .ref (qa 30), .ref (qa 31), .int 0, .int 0, .int 0])), ((qa 18), .inl (k 4, 4, .inr (.inr (.inr (.inr (va_up (va_up (va_up (va_up (fun _ => none) 0 (some (qa 37))) 1 (some (qa 45))) 2 (some (qa 53))) 3 (some (qa 61))))))))] sz (S := Unit) (fun r u => r = 0) (fun u => []) 0 0 := by
  refine p_ofi (cc := cX12_mark) (maxL := 3) (rt := .boolean) (by decide) rfl (Nat.le_of_ble_eq_true rfl) ?_
  intro p e s m below meth c hx hb hml hown hts hK hN A hA hP hD hS Q hret ls hl
  have hl : lv_has ls 3 [(0, .ref (qa 0)), (1, .int w), (2, .int b)] := hl
  refine lv_iload_n hx hb dX12_mark_0 rfl (lv_at hl 1 rfl) ?_
  refine lv_if_lt (tgt := 25) hx hb dX12_mark_1 (by decide) (fun cx1 => ?_) (fun h9 => absurd hw h9)
  refine lv_iconst (v := 0) hx hb dX12_mark_25 (by decide) ?_
  exact hret _ _ _ _ _ _ 0 () (by decide) (by decide) dX12_mark_26 rfl rfl (hP.sub [] rfl) (hD.sub [] (by decide) rfl) hS
def pw_mark_hi : List Cond := .code yX12_mark cX12_mark 3 (some .boolean) :: ([])
set_option maxHeartbeats 4000000 in
set_option maxRecDepth 100000 in
theorem c_mark_hi (l : Launch) (D : va_G) (k : Nat → ClassId) (sz : Nat) (qa : Nat → Nat) (w : Int32) (b : Int32) (hw : 3 < w) : pMi l yX12_mark pw_mark_hi ({ frames := 0, cells := 0, slots := 0, locals := 0 }) D k [.ref (qa 0), .int w, .int b] [((qa 0), .inr (9, [.ref (qa 1), .ref (qa 6), .ref (qa 9), .ref (qa 17), .ref (qa 18), .ref (qa 19), .ref (qa 20), .ref (qa 23), .ref (qa 25), .ref (qa 28), .ref (qa 29), .ref (qa 30), .ref (qa 31), .int 0, .int 0, .int 0])), ((qa 18), .inl (k 4, 4, .inr (.inr (.inr (.inr (va_up (va_up (va_up (va_up (fun _ => none) 0 (some (qa 37))) 1 (some (qa 45))) 2 (some (qa 53))) 3 (some (qa 61))))))))] sz (S := Unit) (fun r u => r = 0) (fun u => []) 0 0 := by
  refine p_ofi (cc := cX12_mark) (maxL := 3) (rt := .boolean) (by decide) rfl (Nat.le_of_ble_eq_true rfl) ?_
  intro p e s m below meth c hx hb hml hown hts hK hN A hA hP hD hS Q hret ls hl
  have hl : lv_has ls 3 [(0, .ref (qa 0)), (1, .int w), (2, .int b)] := hl
  refine lv_iload_n hx hb dX12_mark_0 rfl (lv_at hl 1 rfl) ?_
  refine lv_if_lt (tgt := 25) hx hb dX12_mark_1 (by decide) (fun h9 => absurd h9 (show ¬ w < 0 by revert hw; simp only [Int32.lt_iff_toInt_lt, Int32.le_iff_toInt_le, ← Int32.toInt_inj, (by decide : (0 : Int32).toInt = 0), (by decide : (3 : Int32).toInt = 3)]; omega)) (fun cx1 => ?_)
  refine lv_iload_n hx hb dX12_mark_4 rfl (lv_at hl 1 rfl) ?_
  refine lv_iconst (v := 4) hx hb dX12_mark_5 (by decide) ?_
  refine lv_icmp_ge (tgt := 25) hx hb dX12_mark_6 (by decide) (fun cx2 => ?_) (fun h9 => absurd (show 4 ≤ w by revert hw; simp only [Int32.lt_iff_toInt_lt, Int32.le_iff_toInt_le, ← Int32.toInt_inj, (by decide : (3 : Int32).toInt = 3), (by decide : (4 : Int32).toInt = 4)]; omega) h9)
  refine lv_iconst (v := 0) hx hb dX12_mark_25 (by decide) ?_
  exact hret _ _ _ _ _ _ 0 () (by decide) (by decide) dX12_mark_26 rfl rfl (hP.sub [] rfl) (hD.sub [] (by decide) rfl) hS
def pw_Matches_begin : List Cond := .code yX4_begin cX4_begin 1 none :: ([.fieldLink RX4 9 "RiverVows$Matches" "leastDigging" "I", .fieldLink RX4 15 "RiverVows$Matches" "fewest" "I"] ++ wsX40)
set_option maxHeartbeats 4000000 in
set_option maxRecDepth 100000 in
theorem c_Matches_begin (l : Launch) (D : va_G) (k : Nat → ClassId) (sz : Nat) (w0 : Nat) (wh : Nat) (h0 : Nat) (m2 : Int32) (m3 : Int32) (m4 : Int32) (m5 : Int32)  : pMv l yX4_begin pw_Matches_begin ({ frames := 0, cells := 0, slots := 0, locals := 0 }) D k [.ref w0] [(w0, .inr (3, [.ref h0, .ref wh, .int m2, .int m3, .int m4, .int m5]))] sz (S := Unit) (fun u => True) (fun u => [(w0, .inr (3, [.ref h0, .ref wh, .int m2, .int m3, .int 0, .int 0]))]) 0 0 := by
  refine p_ofv (cc := cX4_begin) (maxL := 1) (by decide) rfl (Nat.le_of_ble_eq_true rfl) ?_
  intro p e s m below meth c hx hb hml hown hts hin hK hN A hA hP hD hS Q hret ls hl
  have hl : lv_has ls 1 [(0, .ref w0)] := hl
  have lf9 := hts (.fieldLink RX4 9 "RiverVows$Matches" "leastDigging" "I") (by decide +kernel)
  have inX4 : ∀ w ∈ wsX40, w ∈ pw_Matches_begin := by decide +kernel
  have lf15 := hts (.fieldLink RX4 15 "RiverVows$Matches" "fewest" "I") (by decide +kernel)
  refine lv_aload_n hx hb dX4_begin_0 rfl (lv_at hl 0 rfl) ?_
  refine lv_iconst (v := 0) hx hb dX4_begin_1 (by decide) ?_
  refine va_put (ci := 3) (v := .int 0) (ty := .int) (C := RX4) (T := TX4) (N := 6) hx hb hts inX4 tyX4 tyX4_ok nmX4 hown hK hP hD hS 0 rfl rfl 4 (by decide) lf9 (fun _ h9 => h9) rfl (by decide +kernel) rfl rfl (Nat.le_of_ble_eq_true rfl) dX4_begin_2 (fun H locs hP hD hS => ?_)
  have hP : va_P D vwCl [(w0, .inr (3, [.ref h0, .ref wh, .int m2, .int m3, .int 0, .int m5]))] H := hP
  have hD : va_D A [(w0, .inr (3, [.ref h0, .ref wh, .int m2, .int m3, .int 0, .int m5]))] := hD
  refine lv_aload_n hx hb dX4_begin_5 rfl (lv_at hl 0 rfl) ?_
  refine lv_iconst (v := 0) hx hb dX4_begin_6 (by decide) ?_
  refine va_put (ci := 3) (v := .int 0) (ty := .int) (C := RX4) (T := TX4) (N := 6) hx hb hts inX4 tyX4 tyX4_ok nmX4 hown hK hP hD hS 0 rfl rfl 5 (by decide) lf15 (fun _ h9 => h9) rfl (by decide +kernel) rfl rfl (Nat.le_of_ble_eq_true rfl) dX4_begin_7 (fun H locs hP hD hS => ?_)
  have hP : va_P D vwCl [(w0, .inr (3, [.ref h0, .ref wh, .int m2, .int m3, .int 0, .int 0]))] H := hP
  have hD : va_D A [(w0, .inr (3, [.ref h0, .ref wh, .int m2, .int m3, .int 0, .int 0]))] := hD
  exact hret _ _ _ _ _ _ () (by decide) (by decide) dX4_begin_10 trivial (hP.sub [0] rfl) (hD.sub [0] (by decide) rfl) hS
def pw_Matches_end : List Cond := .code yX4_end cX4_end 1 none :: ([])
set_option maxHeartbeats 4000000 in
set_option maxRecDepth 100000 in
theorem c_Matches_end (l : Launch) (D : va_G) (k : Nat → ClassId) (sz : Nat) (w0 : Nat)  : pMv l yX4_end pw_Matches_end ({ frames := 0, cells := 0, slots := 0, locals := 0 }) D k [.ref w0] [] sz (S := Unit) (fun u => True) (fun u => []) 0 0 := by
  refine p_ofv (cc := cX4_end) (maxL := 1) (by decide) rfl (Nat.le_of_ble_eq_true rfl) ?_
  intro p e s m below meth c hx hb hml hown hts hin hK hN A hA hP hD hS Q hret ls hl
  have hl : lv_has ls 1 [(0, .ref w0)] := hl
  exact hret _ _ _ _ _ _ () (by decide) (by decide) dX4_end_0 trivial (hP.sub [] rfl) (hD.sub [] (by decide) rfl) hS
def pw_Matches_note : List Cond := .code yX4_note cX4_note 4 none :: ([.fieldLink RX4 18 "RiverVows$Matches" "net" "LRiverVows$Net;", .sameField "RiverVows$Matches" "RiverVows$Ways" "net" "LRiverVows$Net;", .code yX5_dryMills cX5_dryMills 5 (some .int), .fieldLink RX5 18 "RiverVows$Net" "land" "LRiverVows$Land;", .fieldLink RX5 26 "RiverVows$Land" "rivers" "I", .methodLink RX4 24 yX5_dryMills, .instanceMethod yX5_dryMills, .selects RX5 yX5_dryMills yX5_dryMills, .initialized RX5, .code yX5_floodedTowns cX5_floodedTowns 5 (some .int), .methodLink RX4 30 yX5_floodedTowns, .instanceMethod yX5_floodedTowns, .selects RX5 yX5_floodedTowns yX5_floodedTowns, .fieldLink RX4 9 "RiverVows$Matches" "leastDigging" "I", .fieldLink RX4 15 "RiverVows$Matches" "fewest" "I", .fieldLink RX4 33 "RiverVows$Matches" "ways" "I", .sameField "RiverVows$Matches" "RiverVows$Ways" "ways" "I", .fieldLink RX4 36 "RiverVows$Net" "husband" "[I", .fieldLink RX4 40 "RiverVows$Matches" "husband" "[I", .sameField "RiverVows$Matches" "RiverVows$Ways" "husband" "[I", .methodLink RX4 41 arraycopyName, .native arraycopyName, .static arraycopyName, .initialized "java/lang/System"] ++ wsX40 ++ wsX50 ++ wsX30)
set_option maxRecDepth 20000 in
theorem pg_Matches_note_0 : GoodIn pw_Matches_note (wsV RX4 24 RX5 yX5_dryMills pw_Net_dryMills) := goodIn_sub (by decide +kernel) (by decide +kernel)
set_option maxRecDepth 20000 in
theorem pg_Matches_note_1 : GoodIn pw_Matches_note (wsV RX4 30 RX5 yX5_floodedTowns pw_Net_floodedTowns) := goodIn_sub (by decide +kernel) (by decide +kernel)
set_option maxHeartbeats 4000000 in
set_option maxRecDepth 100000 in
theorem c_Matches_note (l : Launch) (D : va_G) (k : Nat → ClassId) (sz : Nat) (w0 : Nat) (wh : Nat) (h0 : Nat) (n1 : Nat) (n2 : Nat) (la : Nat) (m3 : Int32) (fh : Nat → Int32) (f : Nat → Int32) (l0 : Nat) (l1 : Nat) (l2 : Nat) (l3 : Nat) (l4 : Nat) (l5 : Nat) (l6 : Nat)  : pMv l yX4_note pw_Matches_note ({ frames := 1, cells := 0, slots := 0, locals := 60 }) D k [.ref w0, .int 0, .int 0] [(w0, .inr (3, [.ref h0, .ref wh, .int 0, .int m3, .int 0, .int 0])), (wh, .inl (k 1, 6, .inl fh)), (h0, .inr (4, [.ref n1, .ref n2, .ref la])), (n1, .inl (k 1, 6, .inl f)), (la, .inr (2, [.ref l0, .ref l1, .ref l2, .ref l3, .ref l4, .ref l5, .ref l6, .int 0, .int 0, .int 0, .int 0, .int 0]))] sz (S := (Nat → Int32)) (fun u => True) (fun u => [(w0, .inr (3, [.ref h0, .ref wh, .int 1, .int m3, .int 0, .int 0])), (wh, .inl (k 1, 6, .inl u)), (h0, .inr (4, [.ref n1, .ref n2, .ref la])), (n1, .inl (k 1, 6, .inl f)), (la, .inr (2, [.ref l0, .ref l1, .ref l2, .ref l3, .ref l4, .ref l5, .ref l6, .int 0, .int 0, .int 0, .int 0, .int 0]))]) 0 0 := by
  refine p_ofv (cc := cX4_note) (maxL := 4) (by decide) rfl (Nat.le_of_ble_eq_true rfl) ?_
  intro p e s m below meth c hx hb hml hown hts hin hK hN A hA hP hD hS Q hret ls hl
  have hl : lv_has ls 4 [(0, .ref w0), (1, .int 0), (2, .int 0)] := hl
  have lf18 := hts (.fieldLink RX4 18 "RiverVows$Matches" "net" "LRiverVows$Net;") (by decide +kernel)
  have sf18 := hts (.sameField "RiverVows$Matches" "RiverVows$Ways" "net" "LRiverVows$Net;") (by decide +kernel)
  have inX4 : ∀ w ∈ wsX40, w ∈ pw_Matches_note := by decide +kernel
  have lf9 := hts (.fieldLink RX4 9 "RiverVows$Matches" "leastDigging" "I") (by decide +kernel)
  have lf15 := hts (.fieldLink RX4 15 "RiverVows$Matches" "fewest" "I") (by decide +kernel)
  have lf33 := hts (.fieldLink RX4 33 "RiverVows$Matches" "ways" "I") (by decide +kernel)
  have sf33 := hts (.sameField "RiverVows$Matches" "RiverVows$Ways" "ways" "I") (by decide +kernel)
  have lf36 := hts (.fieldLink RX4 36 "RiverVows$Net" "husband" "[I") (by decide +kernel)
  have inX5 : ∀ w ∈ wsX50, w ∈ pw_Matches_note := by decide +kernel
  have lf40 := hts (.fieldLink RX4 40 "RiverVows$Matches" "husband" "[I") (by decide +kernel)
  have sf40 := hts (.sameField "RiverVows$Matches" "RiverVows$Ways" "husband" "[I") (by decide +kernel)
  have ml41 := hts (.methodLink RX4 41 arraycopyName) (by decide +kernel)
  have acn := hts (.native arraycopyName) (by decide +kernel)
  have acs := hts (.static arraycopyName) (by decide +kernel)
  have aci := hts (.initialized "java/lang/System") (by decide +kernel)
  refine lv_aload_n hx hb dX4_note_0 rfl (lv_at hl 0 rfl) ?_
  refine va_get (ci := 3) (v := .ref h0) (C := RX4) (T := TX4) (N := 6) hx hb hts inX4 hown hK hP 0 rfl rfl 0 (by decide) lf18 (fun x9 h9 => u_same sf18 x9 h9) rfl dX4_note_1 ?_
  refine lv_bipush (v := 8) hx hb dX4_note_4 (by decide) ?_
  refine p_ji (wr := [(w0, .inr (3, [.ref h0, .ref wh, .int 0, .int m3, .int 0, .int 0])), (wh, .inl (k 1, 6, .inl fh)), (n1, .inl (k 1, 6, .inl f))]) (va_runV (As := [.int 8]) (rest := []) ⟨hx, hb, hml, hown, hts⟩ (c_Net_dryMills l D k _ h0 n1 n2 la l0 l1 l2 l3 l4 l5 l6 8) (cwV 1 hts pg_Matches_note_0 rfl rfl rfl (by decide +kernel) ⟨Nat.le_of_ble_eq_true rfl, Nat.le_of_ble_eq_true rfl⟩) (pV hK hN hP hD [2, 4] rfl (by decide) rfl 2 rfl rfl) rfl rfl hl.1 rfl (lv_room (Nat.le_of_ble_eq_true rfl)) dX4_note_6 ⟨by decide, by decide⟩) hP hD hS hA [2, 4] [0, 1, 3] rfl rfl (by decide) (by decide) (fun rx3 ux1 H locs wx2 hP hD hS => ?_)
  have hx4 : rx3 = 0 := wx2
  subst hx4
  have hP : va_P D vwCl [(w0, .inr (3, [.ref h0, .ref wh, .int 0, .int m3, .int 0, .int 0])), (wh, .inl (k 1, 6, .inl fh)), (n1, .inl (k 1, 6, .inl f)), (h0, .inr (4, [.ref n1, .ref n2, .ref la])), (la, .inr (2, [.ref l0, .ref l1, .ref l2, .ref l3, .ref l4, .ref l5, .ref l6, .int 0, .int 0, .int 0, .int 0, .int 0]))] H := hP
  have hD : va_D A [(w0, .inr (3, [.ref h0, .ref wh, .int 0, .int m3, .int 0, .int 0])), (wh, .inl (k 1, 6, .inl fh)), (n1, .inl (k 1, 6, .inl f)), (h0, .inr (4, [.ref n1, .ref n2, .ref la])), (la, .inr (2, [.ref l0, .ref l1, .ref l2, .ref l3, .ref l4, .ref l5, .ref l6, .int 0, .int 0, .int 0, .int 0, .int 0]))] := hD
  refine lv_if_ne (tgt := 24) hx hb dX4_note_9 (by decide) (fun h9 => absurd (by decide) h9) (fun cx5 => ?_)
  refine lv_aload_n hx hb dX4_note_12 rfl (lv_at hl 0 rfl) ?_
  refine va_get (ci := 3) (v := .ref h0) (C := RX4) (T := TX4) (N := 6) hx hb hts inX4 hown hK hP 0 rfl rfl 0 (by decide) lf18 (fun x9 h9 => u_same sf18 x9 h9) rfl dX4_note_13 ?_
  refine lv_bipush (v := 9) hx hb dX4_note_16 (by decide) ?_
  refine p_ji (wr := [(w0, .inr (3, [.ref h0, .ref wh, .int 0, .int m3, .int 0, .int 0])), (wh, .inl (k 1, 6, .inl fh)), (n1, .inl (k 1, 6, .inl f))]) (va_runV (As := [.int 9]) (rest := []) ⟨hx, hb, hml, hown, hts⟩ (c_Net_floodedTowns l D k _ h0 n1 n2 la l0 l1 l2 l3 l4 l5 l6 9) (cwV 1 hts pg_Matches_note_1 rfl rfl rfl (by decide +kernel) ⟨Nat.le_of_ble_eq_true rfl, Nat.le_of_ble_eq_true rfl⟩) (pV hK hN hP hD [3, 4] rfl (by decide) rfl 3 rfl rfl) rfl rfl hl.1 rfl (lv_room (Nat.le_of_ble_eq_true rfl)) dX4_note_18 ⟨by decide, by decide⟩) hP hD hS hA [3, 4] [0, 1, 2] rfl rfl (by decide) (by decide) (fun rx8 ux6 H locs wx7 hP hD hS => ?_)
  have hx9 : rx8 = 0 := wx7
  subst hx9
  have hP : va_P D vwCl [(w0, .inr (3, [.ref h0, .ref wh, .int 0, .int m3, .int 0, .int 0])), (wh, .inl (k 1, 6, .inl fh)), (n1, .inl (k 1, 6, .inl f)), (h0, .inr (4, [.ref n1, .ref n2, .ref la])), (la, .inr (2, [.ref l0, .ref l1, .ref l2, .ref l3, .ref l4, .ref l5, .ref l6, .int 0, .int 0, .int 0, .int 0, .int 0]))] H := hP
  have hD : va_D A [(w0, .inr (3, [.ref h0, .ref wh, .int 0, .int m3, .int 0, .int 0])), (wh, .inl (k 1, 6, .inl fh)), (n1, .inl (k 1, 6, .inl f)), (h0, .inr (4, [.ref n1, .ref n2, .ref la])), (la, .inr (2, [.ref l0, .ref l1, .ref l2, .ref l3, .ref l4, .ref l5, .ref l6, .int 0, .int 0, .int 0, .int 0, .int 0]))] := hD
  refine lv_if_eq (tgt := 25) hx hb dX4_note_21 (by decide) (fun cx10 => ?_) (fun h9 => absurd (by decide) h9)
  refine lv_iload_n hx hb dX4_note_25 rfl (lv_at hl 1 rfl) ?_
  refine lv_aload_n hx hb dX4_note_26 rfl (lv_at hl 0 rfl) ?_
  refine va_get (ci := 3) (v := .int 0) (C := RX4) (T := TX4) (N := 6) hx hb hts inX4 hown hK hP 0 rfl rfl 4 (by decide) lf9 (fun _ h9 => h9) rfl dX4_note_27 ?_
  refine lv_icmp_lt (tgt := 49) hx hb dX4_note_30 (by decide) (fun h9 => absurd h9 (by decide)) (fun cx11 => ?_)
  refine lv_iload_n hx hb dX4_note_33 rfl (lv_at hl 1 rfl) ?_
  refine lv_aload_n hx hb dX4_note_34 rfl (lv_at hl 0 rfl) ?_
  refine va_get (ci := 3) (v := .int 0) (C := RX4) (T := TX4) (N := 6) hx hb hts inX4 hown hK hP 0 rfl rfl 4 (by decide) lf9 (fun _ h9 => h9) rfl dX4_note_35 ?_
  refine lv_icmp_ne (tgt := 53) hx hb dX4_note_38 (by decide) (fun h9 => absurd (by decide) h9) (fun cx12 => ?_)
  refine lv_iload_n hx hb dX4_note_41 rfl (lv_at hl 2 rfl) ?_
  refine lv_aload_n hx hb dX4_note_42 rfl (lv_at hl 0 rfl) ?_
  refine va_get (ci := 3) (v := .int 0) (C := RX4) (T := TX4) (N := 6) hx hb hts inX4 hown hK hP 0 rfl rfl 5 (by decide) lf15 (fun _ h9 => h9) rfl dX4_note_43 ?_
  refine lv_icmp_ge (tgt := 53) hx hb dX4_note_46 (by decide) (fun cx13 => ?_) (fun h9 => absurd (by decide) h9)
  refine lv_iconst (v := 0) hx hb dX4_note_53 (by decide) ?_
  refine lv_istore_n (lv' := [(3, .int 0), (0, .ref w0), (1, .int 0), (2, .int 0)]) hx hb dX4_note_54 rfl hl (by decide) rfl (fun ls hl => ?_)
  refine lv_aload_n hx hb dX4_note_55 rfl (lv_at hl 1 rfl) ?_
  refine va_get (ci := 3) (v := .int 0) (C := RX4) (T := TX4) (N := 6) hx hb hts inX4 hown hK hP 0 rfl rfl 2 (by decide) lf33 (fun x9 h9 => u_same sf33 x9 h9) rfl dX4_note_56 ?_
  refine lv_if_eq (tgt := 66) hx hb dX4_note_59 (by decide) (fun cx14 => ?_) (fun h9 => absurd (by decide) h9)
  refine lv_aload_n hx hb dX4_note_66 rfl (lv_at hl 1 rfl) ?_
  refine lv_iload_n hx hb dX4_note_67 rfl (lv_at hl 2 rfl) ?_
  refine va_put (ci := 3) (v := .int 0) (ty := .int) (C := RX4) (T := TX4) (N := 6) hx hb hts inX4 tyX4 tyX4_ok nmX4 hown hK hP hD hS 0 rfl rfl 4 (by decide) lf9 (fun _ h9 => h9) rfl (by decide +kernel) rfl rfl (Nat.le_of_ble_eq_true rfl) dX4_note_68 (fun H locs hP hD hS => ?_)
  have hP : va_P D vwCl [(w0, .inr (3, [.ref h0, .ref wh, .int 0, .int m3, .int 0, .int 0])), (wh, .inl (k 1, 6, .inl fh)), (n1, .inl (k 1, 6, .inl f)), (h0, .inr (4, [.ref n1, .ref n2, .ref la])), (la, .inr (2, [.ref l0, .ref l1, .ref l2, .ref l3, .ref l4, .ref l5, .ref l6, .int 0, .int 0, .int 0, .int 0, .int 0]))] H := hP
  have hD : va_D A [(w0, .inr (3, [.ref h0, .ref wh, .int 0, .int m3, .int 0, .int 0])), (wh, .inl (k 1, 6, .inl fh)), (n1, .inl (k 1, 6, .inl f)), (h0, .inr (4, [.ref n1, .ref n2, .ref la])), (la, .inr (2, [.ref l0, .ref l1, .ref l2, .ref l3, .ref l4, .ref l5, .ref l6, .int 0, .int 0, .int 0, .int 0, .int 0]))] := hD
  refine lv_aload_n hx hb dX4_note_71 rfl (lv_at hl 1 rfl) ?_
  refine lv_iload_n hx hb dX4_note_72 rfl (lv_at hl 3 rfl) ?_
  refine va_put (ci := 3) (v := .int 0) (ty := .int) (C := RX4) (T := TX4) (N := 6) hx hb hts inX4 tyX4 tyX4_ok nmX4 hown hK hP hD hS 0 rfl rfl 5 (by decide) lf15 (fun _ h9 => h9) rfl (by decide +kernel) rfl rfl (Nat.le_of_ble_eq_true rfl) dX4_note_73 (fun H locs hP hD hS => ?_)
  have hP : va_P D vwCl [(w0, .inr (3, [.ref h0, .ref wh, .int 0, .int m3, .int 0, .int 0])), (wh, .inl (k 1, 6, .inl fh)), (n1, .inl (k 1, 6, .inl f)), (h0, .inr (4, [.ref n1, .ref n2, .ref la])), (la, .inr (2, [.ref l0, .ref l1, .ref l2, .ref l3, .ref l4, .ref l5, .ref l6, .int 0, .int 0, .int 0, .int 0, .int 0]))] H := hP
  have hD : va_D A [(w0, .inr (3, [.ref h0, .ref wh, .int 0, .int m3, .int 0, .int 0])), (wh, .inl (k 1, 6, .inl fh)), (n1, .inl (k 1, 6, .inl f)), (h0, .inr (4, [.ref n1, .ref n2, .ref la])), (la, .inr (2, [.ref l0, .ref l1, .ref l2, .ref l3, .ref l4, .ref l5, .ref l6, .int 0, .int 0, .int 0, .int 0, .int 0]))] := hD
  refine lv_aload_n hx hb dX4_note_76 rfl (lv_at hl 1 rfl) ?_
  refine va_get (ci := 3) (v := .ref h0) (C := RX4) (T := TX4) (N := 6) hx hb hts inX4 hown hK hP 0 rfl rfl 0 (by decide) lf18 (fun x9 h9 => u_same sf18 x9 h9) rfl dX4_note_77 ?_
  refine va_get (ci := 4) (v := .ref n1) (C := RX5) (T := TX5) (N := 3) hx hb hts inX5 hown hK hP 3 rfl rfl 0 (by decide) lf36 (fun _ h9 => h9) rfl dX4_note_80 ?_
  refine lv_iconst (v := 0) hx hb dX4_note_83 (by decide) ?_
  refine lv_aload_n hx hb dX4_note_84 rfl (lv_at hl 1 rfl) ?_
  refine va_get (ci := 3) (v := .ref wh) (C := RX4) (T := TX4) (N := 6) hx hb hts inX4 hown hK hP 0 rfl rfl 1 (by decide) lf40 (fun x9 h9 => u_same sf40 x9 h9) rfl dX4_note_85 ?_
  refine lv_iconst (v := 0) hx hb dX4_note_88 (by decide) ?_
  refine lv_bipush (v := 6) hx hb dX4_note_89 (by decide) ?_
  refine va_copyi hx hb (hml.trans hl.1.symm) hown ml41 acn acs aci hK hP hD hS 2 1 1 1 rfl rfl rfl rfl rfl (by decide) (by decide) (by decide) (by decide) (by decide) (fun _ _ => rfl) (Nat.le_of_ble_eq_true rfl) (Nat.le_of_ble_eq_true rfl) dX4_note_91 (fun H locs hP hD hS => ?_)
  obtain ⟨fx15, hP, hD⟩ : ∃ fx15, va_P D vwCl [(w0, .inr (3, [.ref h0, .ref wh, .int 0, .int m3, .int 0, .int 0])), (wh, .inl (k 1, 6, .inl fx15)), (n1, .inl (k 1, 6, .inl f)), (h0, .inr (4, [.ref n1, .ref n2, .ref la])), (la, .inr (2, [.ref l0, .ref l1, .ref l2, .ref l3, .ref l4, .ref l5, .ref l6, .int 0, .int 0, .int 0, .int 0, .int 0]))] H ∧ va_D A [(w0, .inr (3, [.ref h0, .ref wh, .int 0, .int m3, .int 0, .int 0])), (wh, .inl (k 1, 6, .inl fx15)), (n1, .inl (k 1, 6, .inl f)), (h0, .inr (4, [.ref n1, .ref n2, .ref la])), (la, .inr (2, [.ref l0, .ref l1, .ref l2, .ref l3, .ref l4, .ref l5, .ref l6, .int 0, .int 0, .int 0, .int 0, .int 0]))] := ⟨_, hP, hD⟩
  refine lv_aload_n hx hb dX4_note_94 rfl (lv_at hl 1 rfl) ?_
  refine lv_dup hx hb dX4_note_95 rfl ?_
  refine va_get (ci := 3) (v := .int 0) (C := RX4) (T := TX4) (N := 6) hx hb hts inX4 hown hK hP 0 rfl rfl 2 (by decide) lf33 (fun x9 h9 => u_same sf33 x9 h9) rfl dX4_note_96 ?_
  refine lv_iconst (v := 1) hx hb dX4_note_99 (by decide) ?_
  refine lv_iadd hx hb dX4_note_100 ?_
  refine p_topI (v := 1) (by decide) ?_
  refine va_put (ci := 3) (v := .int 1) (ty := .int) (C := RX4) (T := TX4) (N := 6) hx hb hts inX4 tyX4 tyX4_ok nmX4 hown hK hP hD hS 0 rfl rfl 2 (by decide) lf33 (fun x9 h9 => u_same sf33 x9 h9) rfl (by decide +kernel) rfl rfl (Nat.le_of_ble_eq_true rfl) dX4_note_101 (fun H locs hP hD hS => ?_)
  have hP : va_P D vwCl [(w0, .inr (3, [.ref h0, .ref wh, .int 1, .int m3, .int 0, .int 0])), (wh, .inl (k 1, 6, .inl fx15)), (n1, .inl (k 1, 6, .inl f)), (h0, .inr (4, [.ref n1, .ref n2, .ref la])), (la, .inr (2, [.ref l0, .ref l1, .ref l2, .ref l3, .ref l4, .ref l5, .ref l6, .int 0, .int 0, .int 0, .int 0, .int 0]))] H := hP
  have hD : va_D A [(w0, .inr (3, [.ref h0, .ref wh, .int 1, .int m3, .int 0, .int 0])), (wh, .inl (k 1, 6, .inl fx15)), (n1, .inl (k 1, 6, .inl f)), (h0, .inr (4, [.ref n1, .ref n2, .ref la])), (la, .inr (2, [.ref l0, .ref l1, .ref l2, .ref l3, .ref l4, .ref l5, .ref l6, .int 0, .int 0, .int 0, .int 0, .int 0]))] := hD
  exact hret _ _ _ _ _ _ fx15 (by decide) (by decide) dX4_note_104 trivial (hP.sub [0, 1, 3, 2, 4] rfl) (hD.sub [0, 1, 3, 2, 4] (by decide) rfl) hS
def pw_search_X4 : List Cond := .code yX10_search cX10_search 5 none :: ([.fieldLink RX10 15 "RiverVows$Ways" "net" "LRiverVows$Net;", .fieldLink RX10 43 "RiverVows$Net" "land" "LRiverVows$Land;", .fieldLink RX10 47 "RiverVows$Land" "rivers" "I", .code yX4_note cX4_note 4 none, .fieldLink RX4 18 "RiverVows$Matches" "net" "LRiverVows$Net;", .sameField "RiverVows$Matches" "RiverVows$Ways" "net" "LRiverVows$Net;", .code yX5_dryMills cX5_dryMills 5 (some .int), .fieldLink RX5 18 "RiverVows$Net" "land" "LRiverVows$Land;", .fieldLink RX5 26 "RiverVows$Land" "rivers" "I", .methodLink RX4 24 yX5_dryMills, .instanceMethod yX5_dryMills, .selects RX5 yX5_dryMills yX5_dryMills, .initialized RX5, .code yX5_floodedTowns cX5_floodedTowns 5 (some .int), .methodLink RX4 30 yX5_floodedTowns, .instanceMethod yX5_floodedTowns, .selects RX5 yX5_floodedTowns yX5_floodedTowns, .fieldLink RX4 9 "RiverVows$Matches" "leastDigging" "I", .fieldLink RX4 15 "RiverVows$Matches" "fewest" "I", .fieldLink RX4 33 "RiverVows$Matches" "ways" "I", .sameField "RiverVows$Matches" "RiverVows$Ways" "ways" "I", .fieldLink RX4 36 "RiverVows$Net" "husband" "[I", .fieldLink RX4 40 "RiverVows$Matches" "husband" "[I", .sameField "RiverVows$Matches" "RiverVows$Ways" "husband" "[I", .methodLink RX4 41 arraycopyName, .native arraycopyName, .static arraycopyName, .initialized "java/lang/System", .methodLink RX10 52 ⟨"RiverVows$Ways", "note", "(II)V"⟩, .sameMethod "RiverVows$Ways" "RiverVows$Ways" "note" "(II)V", .selects RX4 ⟨"RiverVows$Ways", "note", "(II)V"⟩ yX4_note, .instanceMethod yX4_note, .initialized RX4] ++ wsX40 ++ wsX50 ++ wsX30)
set_option maxRecDepth 20000 in
theorem pg_search_X4_0 : GoodIn pw_search_X4 (va_wsU RX10 52 RX4 "RiverVows$Ways" ⟨"RiverVows$Ways", "note", "(II)V"⟩ yX4_note pw_Matches_note) := goodIn_sub (by decide +kernel) (by decide +kernel)
set_option maxHeartbeats 4000000 in
set_option maxRecDepth 100000 in
theorem c_search_X4 (l : Launch) (D : va_G) (k : Nat → ClassId) (sz : Nat) (w0 : Nat) (wh : Nat) (h0 : Nat) (n1 : Nat) (n2 : Nat) (la : Nat) (m3 : Int32) (fh : Nat → Int32) (f : Nat → Int32) (l0 : Nat) (l1 : Nat) (l2 : Nat) (l3 : Nat) (l4 : Nat) (l5 : Nat) (l6 : Nat)  : pMv l yX10_search pw_search_X4 ({ frames := 2, cells := 0, slots := 0, locals := 83 }) D k [.ref w0, .int 0, .int 0, .int 0] [(w0, .inr (3, [.ref h0, .ref wh, .int 0, .int m3, .int 0, .int 0])), (wh, .inl (k 1, 6, .inl fh)), (h0, .inr (4, [.ref n1, .ref n2, .ref la])), (n1, .inl (k 1, 6, .inl f)), (la, .inr (2, [.ref l0, .ref l1, .ref l2, .ref l3, .ref l4, .ref l5, .ref l6, .int 0, .int 0, .int 0, .int 0, .int 0]))] sz (S := (Nat → Int32)) (fun u => True) (fun u => [(w0, .inr (3, [.ref h0, .ref wh, .int 1, .int m3, .int 0, .int 0])), (wh, .inl (k 1, 6, .inl u)), (h0, .inr (4, [.ref n1, .ref n2, .ref la])), (n1, .inl (k 1, 6, .inl f)), (la, .inr (2, [.ref l0, .ref l1, .ref l2, .ref l3, .ref l4, .ref l5, .ref l6, .int 0, .int 0, .int 0, .int 0, .int 0]))]) 0 0 := by
  refine p_ofv (cc := cX10_search) (maxL := 5) (by decide) rfl (Nat.le_of_ble_eq_true rfl) ?_
  intro p e s m below meth c hx hb hml hown hts hin hK hN A hA hP hD hS Q hret ls hl
  have hl : lv_has ls 5 [(0, .ref w0), (1, .int 0), (2, .int 0), (3, .int 0)] := hl
  have lf15 := hts (.fieldLink RX10 15 "RiverVows$Ways" "net" "LRiverVows$Net;") (by decide +kernel)
  have inX4 : ∀ w ∈ wsX40, w ∈ pw_search_X4 := by decide +kernel
  have lf43 := hts (.fieldLink RX10 43 "RiverVows$Net" "land" "LRiverVows$Land;") (by decide +kernel)
  have inX5 : ∀ w ∈ wsX50, w ∈ pw_search_X4 := by decide +kernel
  have lf47 := hts (.fieldLink RX10 47 "RiverVows$Land" "rivers" "I") (by decide +kernel)
  have inX3 : ∀ w ∈ wsX30, w ∈ pw_search_X4 := by decide +kernel
  refine lv_iload_n hx hb dX10_search_0 rfl (lv_at hl 1 rfl) ?_
  refine lv_aload_n hx hb dX10_search_1 rfl (lv_at hl 0 rfl) ?_
  refine va_get (ci := 3) (v := .ref h0) (C := RX4) (T := TX4) (N := 6) hx hb hts inX4 hown hK hP 0 rfl rfl 0 (by decide) lf15 (fun _ h9 => h9) rfl dX10_search_2 ?_
  refine va_get (ci := 4) (v := .ref la) (C := RX5) (T := TX5) (N := 3) hx hb hts inX5 hown hK hP 2 rfl rfl 2 (by decide) lf43 (fun _ h9 => h9) rfl dX10_search_5 ?_
  refine va_get (ci := 2) (v := .int 0) (C := RX3) (T := TX3) (N := 12) hx hb hts inX3 hown hK hP 4 rfl rfl 7 (by decide) lf47 (fun _ h9 => h9) rfl dX10_search_8 ?_
  refine lv_icmp_lt (tgt := 21) hx hb dX10_search_11 (by decide) (fun h9 => absurd h9 (by decide)) (fun cx1 => ?_)
  refine lv_aload_n hx hb dX10_search_14 rfl (lv_at hl 0 rfl) ?_
  refine lv_iload_n hx hb dX10_search_15 rfl (lv_at hl 2 rfl) ?_
  refine lv_iload_n hx hb dX10_search_16 rfl (lv_at hl 3 rfl) ?_
  refine p_jv (wr := []) (va_runU (As := [.int 0, .int 0]) (rest := []) ⟨hx, hb, hml, hown, hts⟩ (c_Matches_note l D k _ w0 wh h0 n1 n2 la m3 fh f l0 l1 l2 l3 l4 l5 l6) (va_cwA 2 hts pg_search_X4_0 rfl rfl rfl hN.2.2.2.2.2.2.1 (by decide +kernel) ⟨Nat.le_of_ble_eq_true rfl, Nat.le_of_ble_eq_true rfl⟩) (pV hK hN hP hD [0, 1, 2, 3, 4] rfl (by decide) rfl 0 rfl rfl) rfl rfl hl.1 rfl (lv_room (Nat.le_of_ble_eq_true rfl)) dX10_search_17 ⟨by decide, by decide⟩) hP hD hS hA [0, 1, 2, 3, 4] [] rfl rfl (by decide) (by decide) (fun ux2 H locs wx3 hP hD hS => ?_)
  obtain ⟨gh_x5, rfl⟩ : ∃ z, z = ux2 := ⟨_, rfl⟩
  have hP : va_P D vwCl [(w0, .inr (3, [.ref h0, .ref wh, .int 1, .int m3, .int 0, .int 0])), (wh, .inl (k 1, 6, .inl gh_x5)), (h0, .inr (4, [.ref n1, .ref n2, .ref la])), (n1, .inl (k 1, 6, .inl f)), (la, .inr (2, [.ref l0, .ref l1, .ref l2, .ref l3, .ref l4, .ref l5, .ref l6, .int 0, .int 0, .int 0, .int 0, .int 0]))] H := hP
  have hD : va_D A [(w0, .inr (3, [.ref h0, .ref wh, .int 1, .int m3, .int 0, .int 0])), (wh, .inl (k 1, 6, .inl gh_x5)), (h0, .inr (4, [.ref n1, .ref n2, .ref la])), (n1, .inl (k 1, 6, .inl f)), (la, .inr (2, [.ref l0, .ref l1, .ref l2, .ref l3, .ref l4, .ref l5, .ref l6, .int 0, .int 0, .int 0, .int 0, .int 0]))] := hD
  exact hret _ _ _ _ _ _ gh_x5 (by decide) (by decide) dX10_search_20 trivial (hP.sub [0, 1, 2, 3, 4] rfl) (hD.sub [0, 1, 2, 3, 4] (by decide) rfl) hS
def pw_refresh_X4 : List Cond := .code yX10_refresh cX10_refresh 2 none :: ([.fieldLink RX10 19 "RiverVows$Ways" "fresh" "Z", .fieldLink RX10 23 "RiverVows$Ways" "ways" "I", .fieldLink RX10 15 "RiverVows$Ways" "net" "LRiverVows$Net;", .code yX5_clear cX5_clear 3 none, .fieldLink RX5 18 "RiverVows$Net" "land" "LRiverVows$Land;", .fieldLink RX5 9 "RiverVows$Net" "husband" "[I", .fieldLink RX5 15 "RiverVows$Net" "whole" "[I", .methodLink RX10 27 yX5_clear, .instanceMethod yX5_clear, .selects RX5 yX5_clear yX5_clear, .initialized RX5, .code yX4_begin cX4_begin 1 none, .fieldLink RX4 9 "RiverVows$Matches" "leastDigging" "I", .fieldLink RX4 15 "RiverVows$Matches" "fewest" "I", .methodLink RX10 33 ⟨"RiverVows$Ways", "begin", "()V"⟩, .sameMethod "RiverVows$Ways" "RiverVows$Ways" "begin" "()V", .selects RX4 ⟨"RiverVows$Ways", "begin", "()V"⟩ yX4_begin, .instanceMethod yX4_begin, .initialized RX4, .code yX10_search cX10_search 5 none, .fieldLink RX10 43 "RiverVows$Net" "land" "LRiverVows$Land;", .fieldLink RX10 47 "RiverVows$Land" "rivers" "I", .code yX4_note cX4_note 4 none, .fieldLink RX4 18 "RiverVows$Matches" "net" "LRiverVows$Net;", .sameField "RiverVows$Matches" "RiverVows$Ways" "net" "LRiverVows$Net;", .code yX5_dryMills cX5_dryMills 5 (some .int), .fieldLink RX5 26 "RiverVows$Land" "rivers" "I", .methodLink RX4 24 yX5_dryMills, .instanceMethod yX5_dryMills, .selects RX5 yX5_dryMills yX5_dryMills, .code yX5_floodedTowns cX5_floodedTowns 5 (some .int), .methodLink RX4 30 yX5_floodedTowns, .instanceMethod yX5_floodedTowns, .selects RX5 yX5_floodedTowns yX5_floodedTowns, .fieldLink RX4 33 "RiverVows$Matches" "ways" "I", .sameField "RiverVows$Matches" "RiverVows$Ways" "ways" "I", .fieldLink RX4 36 "RiverVows$Net" "husband" "[I", .fieldLink RX4 40 "RiverVows$Matches" "husband" "[I", .sameField "RiverVows$Matches" "RiverVows$Ways" "husband" "[I", .methodLink RX4 41 arraycopyName, .native arraycopyName, .static arraycopyName, .initialized "java/lang/System", .methodLink RX10 52 ⟨"RiverVows$Ways", "note", "(II)V"⟩, .sameMethod "RiverVows$Ways" "RiverVows$Ways" "note" "(II)V", .selects RX4 ⟨"RiverVows$Ways", "note", "(II)V"⟩ yX4_note, .instanceMethod yX4_note, .methodLink RX10 36 ⟨"RiverVows$Ways", "search", "(III)V"⟩, .sameMethod "RiverVows$Ways" "RiverVows$Ways" "search" "(III)V", .selects RX4 ⟨"RiverVows$Ways", "search", "(III)V"⟩ yX10_search, .instanceMethod yX10_search, .initialized RX10, .code yX4_end cX4_end 1 none, .methodLink RX10 40 ⟨"RiverVows$Ways", "end", "()V"⟩, .sameMethod "RiverVows$Ways" "RiverVows$Ways" "end" "()V", .selects RX4 ⟨"RiverVows$Ways", "end", "()V"⟩ yX4_end, .instanceMethod yX4_end] ++ wsX40 ++ wsX50 ++ wsX30)
set_option maxRecDepth 20000 in
theorem pg_refresh_X4_0 : GoodIn pw_refresh_X4 (wsV RX10 27 RX5 yX5_clear pw_Net_clear) := goodIn_sub (by decide +kernel) (by decide +kernel)
set_option maxRecDepth 20000 in
theorem pg_refresh_X4_1 : GoodIn pw_refresh_X4 (va_wsU RX10 33 RX4 "RiverVows$Ways" ⟨"RiverVows$Ways", "begin", "()V"⟩ yX4_begin pw_Matches_begin) := goodIn_sub (by decide +kernel) (by decide +kernel)
set_option maxRecDepth 20000 in
theorem pg_refresh_X4_2 : GoodIn pw_refresh_X4 (va_wsU RX10 36 RX4 "RiverVows$Ways" ⟨"RiverVows$Ways", "search", "(III)V"⟩ yX10_search pw_search_X4) := goodIn_sub (by decide +kernel) (by decide +kernel)
set_option maxRecDepth 20000 in
theorem pg_refresh_X4_3 : GoodIn pw_refresh_X4 (va_wsU RX10 40 RX4 "RiverVows$Ways" ⟨"RiverVows$Ways", "end", "()V"⟩ yX4_end pw_Matches_end) := goodIn_sub (by decide +kernel) (by decide +kernel)
set_option maxHeartbeats 4000000 in
set_option maxRecDepth 100000 in
theorem c_refresh_X4 (l : Launch) (D : va_G) (k : Nat → ClassId) (sz : Nat) (w0 : Nat) (wh : Nat) (h0 : Nat) (n1 : Nat) (n2 : Nat) (la : Nat) (fh : Nat → Int32) (f : Nat → Int32) (g : Nat → Int32) (l0 : Nat) (l1 : Nat) (l2 : Nat) (l3 : Nat) (l4 : Nat) (l5 : Nat) (l6 : Nat)  : pMv l yX10_refresh pw_refresh_X4 ({ frames := 3, cells := 0, slots := 0, locals := 107 }) D k [.ref w0, .ref la] [(w0, .inr (3, [.ref h0, .ref wh, .int 0, .int 0, .int 0, .int 0])), (wh, .inl (k 1, 6, .inl fh)), (h0, .inr (4, [.ref n1, .ref n2, .ref la])), (n1, .inl (k 1, 6, .inl f)), (n2, .inl (k 1, 6, .inl g)), (la, .inr (2, [.ref l0, .ref l1, .ref l2, .ref l3, .ref l4, .ref l5, .ref l6, .int 0, .int 0, .int 0, .int 0, .int 0]))] sz (S := (Nat → Int32)) (fun u => True) (fun u => [(w0, .inr (3, [.ref h0, .ref wh, .int 1, .int 1, .int 0, .int 0])), (wh, .inl (k 1, 6, .inl u))]) 0 0 := by
  refine p_ofv (cc := cX10_refresh) (maxL := 2) (by decide) rfl (Nat.le_of_ble_eq_true rfl) ?_
  intro p e s m below meth c hx hb hml hown hts hin hK hN A hA hP hD hS Q hret ls hl
  have hl : lv_has ls 2 [(0, .ref w0), (1, .ref la)] := hl
  have lf19 := hts (.fieldLink RX10 19 "RiverVows$Ways" "fresh" "Z") (by decide +kernel)
  have inX4 : ∀ w ∈ wsX40, w ∈ pw_refresh_X4 := by decide +kernel
  have lf23 := hts (.fieldLink RX10 23 "RiverVows$Ways" "ways" "I") (by decide +kernel)
  have lf15 := hts (.fieldLink RX10 15 "RiverVows$Ways" "net" "LRiverVows$Net;") (by decide +kernel)
  refine lv_aload_n hx hb dX10_refresh_0 rfl (lv_at hl 0 rfl) ?_
  refine va_get (ci := 3) (v := .int 0) (C := RX4) (T := TX4) (N := 6) hx hb hts inX4 hown hK hP 0 rfl rfl 3 (by decide) lf19 (fun _ h9 => h9) rfl dX10_refresh_1 ?_
  refine lv_if_eq (tgt := 8) hx hb dX10_refresh_4 (by decide) (fun cx1 => ?_) (fun h9 => absurd (by decide) h9)
  refine lv_aload_n hx hb dX10_refresh_8 rfl (lv_at hl 0 rfl) ?_
  refine lv_iconst (v := 0) hx hb dX10_refresh_9 (by decide) ?_
  refine va_put (ci := 3) (v := .int 0) (ty := .int) (C := RX4) (T := TX4) (N := 6) hx hb hts inX4 tyX4 tyX4_ok nmX4 hown hK hP hD hS 0 rfl rfl 2 (by decide) lf23 (fun _ h9 => h9) rfl (by decide +kernel) rfl rfl (Nat.le_of_ble_eq_true rfl) dX10_refresh_10 (fun H locs hP hD hS => ?_)
  have hP : va_P D vwCl [(w0, .inr (3, [.ref h0, .ref wh, .int 0, .int 0, .int 0, .int 0])), (wh, .inl (k 1, 6, .inl fh)), (h0, .inr (4, [.ref n1, .ref n2, .ref la])), (n1, .inl (k 1, 6, .inl f)), (n2, .inl (k 1, 6, .inl g)), (la, .inr (2, [.ref l0, .ref l1, .ref l2, .ref l3, .ref l4, .ref l5, .ref l6, .int 0, .int 0, .int 0, .int 0, .int 0]))] H := hP
  have hD : va_D A [(w0, .inr (3, [.ref h0, .ref wh, .int 0, .int 0, .int 0, .int 0])), (wh, .inl (k 1, 6, .inl fh)), (h0, .inr (4, [.ref n1, .ref n2, .ref la])), (n1, .inl (k 1, 6, .inl f)), (n2, .inl (k 1, 6, .inl g)), (la, .inr (2, [.ref l0, .ref l1, .ref l2, .ref l3, .ref l4, .ref l5, .ref l6, .int 0, .int 0, .int 0, .int 0, .int 0]))] := hD
  refine lv_aload_n hx hb dX10_refresh_13 rfl (lv_at hl 0 rfl) ?_
  refine va_get (ci := 3) (v := .ref h0) (C := RX4) (T := TX4) (N := 6) hx hb hts inX4 hown hK hP 0 rfl rfl 0 (by decide) lf15 (fun _ h9 => h9) rfl dX10_refresh_14 ?_
  refine lv_aload_n hx hb dX10_refresh_17 rfl (lv_at hl 1 rfl) ?_
  refine p_jv (wr := [(w0, .inr (3, [.ref h0, .ref wh, .int 0, .int 0, .int 0, .int 0])), (wh, .inl (k 1, 6, .inl fh)), (la, .inr (2, [.ref l0, .ref l1, .ref l2, .ref l3, .ref l4, .ref l5, .ref l6, .int 0, .int 0, .int 0, .int 0, .int 0]))]) (va_runV (As := [.ref la]) (rest := []) ⟨hx, hb, hml, hown, hts⟩ (c_Net_clear l D k _ h0 n1 n2 la (.ref la) f g) (cwV 1 hts pg_refresh_X4_0 rfl rfl rfl (by decide +kernel) ⟨Nat.le_of_ble_eq_true rfl, Nat.le_of_ble_eq_true rfl⟩) (pV hK hN hP hD [2, 3, 4] rfl (by decide) rfl 2 rfl rfl) rfl rfl hl.1 rfl (lv_room (Nat.le_of_ble_eq_true rfl)) dX10_refresh_18 ⟨by decide, by decide⟩) hP hD hS hA [2, 3, 4] [0, 1, 5] rfl rfl (by decide) (by decide) (fun ux2 H locs wx3 hP hD hS => ?_)
  obtain ⟨f9_x5, g9_x6⟩ := ux2
  have hP : va_P D vwCl [(w0, .inr (3, [.ref h0, .ref wh, .int 0, .int 0, .int 0, .int 0])), (wh, .inl (k 1, 6, .inl fh)), (la, .inr (2, [.ref l0, .ref l1, .ref l2, .ref l3, .ref l4, .ref l5, .ref l6, .int 0, .int 0, .int 0, .int 0, .int 0])), (h0, .inr (4, [.ref n1, .ref n2, .ref la])), (n1, .inl (k 1, 6, .inl f9_x5)), (n2, .inl (k 1, 6, .inl g9_x6))] H := hP
  have hD : va_D A [(w0, .inr (3, [.ref h0, .ref wh, .int 0, .int 0, .int 0, .int 0])), (wh, .inl (k 1, 6, .inl fh)), (la, .inr (2, [.ref l0, .ref l1, .ref l2, .ref l3, .ref l4, .ref l5, .ref l6, .int 0, .int 0, .int 0, .int 0, .int 0])), (h0, .inr (4, [.ref n1, .ref n2, .ref la])), (n1, .inl (k 1, 6, .inl f9_x5)), (n2, .inl (k 1, 6, .inl g9_x6))] := hD
  refine lv_aload_n hx hb dX10_refresh_21 rfl (lv_at hl 0 rfl) ?_
  refine p_jv (wr := [(wh, .inl (k 1, 6, .inl fh)), (la, .inr (2, [.ref l0, .ref l1, .ref l2, .ref l3, .ref l4, .ref l5, .ref l6, .int 0, .int 0, .int 0, .int 0, .int 0])), (h0, .inr (4, [.ref n1, .ref n2, .ref la])), (n1, .inl (k 1, 6, .inl f9_x5)), (n2, .inl (k 1, 6, .inl g9_x6))]) (va_runU (As := []) (rest := []) ⟨hx, hb, hml, hown, hts⟩ (c_Matches_begin l D k _ w0 wh h0 0 0 0 0) (va_cwA 0 hts pg_refresh_X4_1 rfl rfl rfl hN.2.2.2.2.2.1 (by decide +kernel) ⟨Nat.le_of_ble_eq_true rfl, Nat.le_of_ble_eq_true rfl⟩) (pV hK hN hP hD [0] rfl (by decide) rfl 0 rfl rfl) rfl rfl hl.1 rfl (lv_room (Nat.le_of_ble_eq_true rfl)) dX10_refresh_22 ⟨by decide, by decide⟩) hP hD hS hA [0] [1, 2, 3, 4, 5] rfl rfl (by decide) (by decide) (fun ux7 H locs wx8 hP hD hS => ?_)
  have hP : va_P D vwCl [(wh, .inl (k 1, 6, .inl fh)), (la, .inr (2, [.ref l0, .ref l1, .ref l2, .ref l3, .ref l4, .ref l5, .ref l6, .int 0, .int 0, .int 0, .int 0, .int 0])), (h0, .inr (4, [.ref n1, .ref n2, .ref la])), (n1, .inl (k 1, 6, .inl f9_x5)), (n2, .inl (k 1, 6, .inl g9_x6)), (w0, .inr (3, [.ref h0, .ref wh, .int 0, .int 0, .int 0, .int 0]))] H := hP
  have hD : va_D A [(wh, .inl (k 1, 6, .inl fh)), (la, .inr (2, [.ref l0, .ref l1, .ref l2, .ref l3, .ref l4, .ref l5, .ref l6, .int 0, .int 0, .int 0, .int 0, .int 0])), (h0, .inr (4, [.ref n1, .ref n2, .ref la])), (n1, .inl (k 1, 6, .inl f9_x5)), (n2, .inl (k 1, 6, .inl g9_x6)), (w0, .inr (3, [.ref h0, .ref wh, .int 0, .int 0, .int 0, .int 0]))] := hD
  refine lv_aload_n hx hb dX10_refresh_25 rfl (lv_at hl 0 rfl) ?_
  refine lv_iconst (v := 0) hx hb dX10_refresh_26 (by decide) ?_
  refine lv_iconst (v := 0) hx hb dX10_refresh_27 (by decide) ?_
  refine lv_iconst (v := 0) hx hb dX10_refresh_28 (by decide) ?_
  refine p_jv (wr := [(n2, .inl (k 1, 6, .inl g9_x6))]) (va_runU (As := [.int 0, .int 0, .int 0]) (rest := []) ⟨hx, hb, hml, hown, hts⟩ (c_search_X4 l D k _ w0 wh h0 n1 n2 la 0 fh f9_x5 l0 l1 l2 l3 l4 l5 l6) (va_cwU 3 hts pg_refresh_X4_2 rfl rfl rfl rfl (by decide +kernel) ⟨Nat.le_of_ble_eq_true rfl, Nat.le_of_ble_eq_true rfl⟩) (pV hK hN hP hD [5, 0, 2, 3, 1] rfl (by decide) rfl 5 rfl rfl) rfl rfl hl.1 rfl (lv_room (Nat.le_of_ble_eq_true rfl)) dX10_refresh_29 ⟨by decide, by decide⟩) hP hD hS hA [5, 0, 2, 3, 1] [4] rfl rfl (by decide) (by decide) (fun ux10 H locs wx11 hP hD hS => ?_)
  obtain ⟨gh_x13, rfl⟩ : ∃ z, z = ux10 := ⟨_, rfl⟩
  have hP : va_P D vwCl [(n2, .inl (k 1, 6, .inl g9_x6)), (w0, .inr (3, [.ref h0, .ref wh, .int 1, .int 0, .int 0, .int 0])), (wh, .inl (k 1, 6, .inl gh_x13)), (h0, .inr (4, [.ref n1, .ref n2, .ref la])), (n1, .inl (k 1, 6, .inl f9_x5)), (la, .inr (2, [.ref l0, .ref l1, .ref l2, .ref l3, .ref l4, .ref l5, .ref l6, .int 0, .int 0, .int 0, .int 0, .int 0]))] H := hP
  have hD : va_D A [(n2, .inl (k 1, 6, .inl g9_x6)), (w0, .inr (3, [.ref h0, .ref wh, .int 1, .int 0, .int 0, .int 0])), (wh, .inl (k 1, 6, .inl gh_x13)), (h0, .inr (4, [.ref n1, .ref n2, .ref la])), (n1, .inl (k 1, 6, .inl f9_x5)), (la, .inr (2, [.ref l0, .ref l1, .ref l2, .ref l3, .ref l4, .ref l5, .ref l6, .int 0, .int 0, .int 0, .int 0, .int 0]))] := hD
  refine lv_aload_n hx hb dX10_refresh_32 rfl (lv_at hl 0 rfl) ?_
  refine p_jv (wr := [(n2, .inl (k 1, 6, .inl g9_x6)), (w0, .inr (3, [.ref h0, .ref wh, .int 1, .int 0, .int 0, .int 0])), (wh, .inl (k 1, 6, .inl gh_x13)), (h0, .inr (4, [.ref n1, .ref n2, .ref la])), (n1, .inl (k 1, 6, .inl f9_x5)), (la, .inr (2, [.ref l0, .ref l1, .ref l2, .ref l3, .ref l4, .ref l5, .ref l6, .int 0, .int 0, .int 0, .int 0, .int 0]))]) (va_runU (As := []) (rest := []) ⟨hx, hb, hml, hown, hts⟩ (c_Matches_end l D k _ w0) (va_cwA 0 hts pg_refresh_X4_3 rfl rfl rfl hN.2.2.2.2.2.2.2 (by decide +kernel) ⟨Nat.le_of_ble_eq_true rfl, Nat.le_of_ble_eq_true rfl⟩) (pV hK hN hP hD [] rfl (by decide) rfl 1 rfl rfl) rfl rfl hl.1 rfl (lv_room (Nat.le_of_ble_eq_true rfl)) dX10_refresh_33 ⟨by decide, by decide⟩) hP hD hS hA [] [0, 1, 2, 3, 4, 5] rfl rfl (by decide) (by decide) (fun ux14 H locs wx15 hP hD hS => ?_)
  have hP : va_P D vwCl [(n2, .inl (k 1, 6, .inl g9_x6)), (w0, .inr (3, [.ref h0, .ref wh, .int 1, .int 0, .int 0, .int 0])), (wh, .inl (k 1, 6, .inl gh_x13)), (h0, .inr (4, [.ref n1, .ref n2, .ref la])), (n1, .inl (k 1, 6, .inl f9_x5)), (la, .inr (2, [.ref l0, .ref l1, .ref l2, .ref l3, .ref l4, .ref l5, .ref l6, .int 0, .int 0, .int 0, .int 0, .int 0]))] H := hP
  have hD : va_D A [(n2, .inl (k 1, 6, .inl g9_x6)), (w0, .inr (3, [.ref h0, .ref wh, .int 1, .int 0, .int 0, .int 0])), (wh, .inl (k 1, 6, .inl gh_x13)), (h0, .inr (4, [.ref n1, .ref n2, .ref la])), (n1, .inl (k 1, 6, .inl f9_x5)), (la, .inr (2, [.ref l0, .ref l1, .ref l2, .ref l3, .ref l4, .ref l5, .ref l6, .int 0, .int 0, .int 0, .int 0, .int 0]))] := hD
  refine lv_aload_n hx hb dX10_refresh_36 rfl (lv_at hl 0 rfl) ?_
  refine lv_iconst (v := 1) hx hb dX10_refresh_37 (by decide) ?_
  refine va_put (ci := 3) (v := .int 1) (ty := .boolean) (C := RX4) (T := TX4) (N := 6) hx hb hts inX4 tyX4 tyX4_ok nmX4 hown hK hP hD hS 1 rfl rfl 3 (by decide) lf19 (fun _ h9 => h9) rfl (by decide +kernel) rfl rfl (Nat.le_of_ble_eq_true rfl) dX10_refresh_38 (fun H locs hP hD hS => ?_)
  have hP : va_P D vwCl [(n2, .inl (k 1, 6, .inl g9_x6)), (w0, .inr (3, [.ref h0, .ref wh, .int 1, .int 1, .int 0, .int 0])), (wh, .inl (k 1, 6, .inl gh_x13)), (h0, .inr (4, [.ref n1, .ref n2, .ref la])), (n1, .inl (k 1, 6, .inl f9_x5)), (la, .inr (2, [.ref l0, .ref l1, .ref l2, .ref l3, .ref l4, .ref l5, .ref l6, .int 0, .int 0, .int 0, .int 0, .int 0]))] H := hP
  have hD : va_D A [(n2, .inl (k 1, 6, .inl g9_x6)), (w0, .inr (3, [.ref h0, .ref wh, .int 1, .int 1, .int 0, .int 0])), (wh, .inl (k 1, 6, .inl gh_x13)), (h0, .inr (4, [.ref n1, .ref n2, .ref la])), (n1, .inl (k 1, 6, .inl f9_x5)), (la, .inr (2, [.ref l0, .ref l1, .ref l2, .ref l3, .ref l4, .ref l5, .ref l6, .int 0, .int 0, .int 0, .int 0, .int 0]))] := hD
  exact hret _ _ _ _ _ _ gh_x13 (by decide) (by decide) dX10_refresh_41 trivial (hP.sub [1, 2] rfl) (hD.sub [1, 2] (by decide) rfl) hS
def pw_match_0 : List Cond := .code yX12_match cX12_match 2 (some .int) :: ([.fieldLink RX12 19 "RiverVows" "country" "LRiverVows$Land;", .fieldLink RX12 151 "RiverVows$Land" "rivers" "I", .fieldLink RX12 67 "RiverVows" "matches" "LRiverVows$Matches;", .code yX10_refresh cX10_refresh 2 none, .fieldLink RX10 19 "RiverVows$Ways" "fresh" "Z", .fieldLink RX10 23 "RiverVows$Ways" "ways" "I", .fieldLink RX10 15 "RiverVows$Ways" "net" "LRiverVows$Net;", .code yX5_clear cX5_clear 3 none, .fieldLink RX5 18 "RiverVows$Net" "land" "LRiverVows$Land;", .fieldLink RX5 9 "RiverVows$Net" "husband" "[I", .fieldLink RX5 15 "RiverVows$Net" "whole" "[I", .methodLink RX10 27 yX5_clear, .instanceMethod yX5_clear, .selects RX5 yX5_clear yX5_clear, .initialized RX5, .code yX4_begin cX4_begin 1 none, .fieldLink RX4 9 "RiverVows$Matches" "leastDigging" "I", .fieldLink RX4 15 "RiverVows$Matches" "fewest" "I", .methodLink RX10 33 ⟨"RiverVows$Ways", "begin", "()V"⟩, .sameMethod "RiverVows$Ways" "RiverVows$Ways" "begin" "()V", .selects RX4 ⟨"RiverVows$Ways", "begin", "()V"⟩ yX4_begin, .instanceMethod yX4_begin, .initialized RX4, .code yX10_search cX10_search 5 none, .fieldLink RX10 43 "RiverVows$Net" "land" "LRiverVows$Land;", .fieldLink RX10 47 "RiverVows$Land" "rivers" "I", .code yX4_note cX4_note 4 none, .fieldLink RX4 18 "RiverVows$Matches" "net" "LRiverVows$Net;", .sameField "RiverVows$Matches" "RiverVows$Ways" "net" "LRiverVows$Net;", .code yX5_dryMills cX5_dryMills 5 (some .int), .fieldLink RX5 26 "RiverVows$Land" "rivers" "I", .methodLink RX4 24 yX5_dryMills, .instanceMethod yX5_dryMills, .selects RX5 yX5_dryMills yX5_dryMills, .code yX5_floodedTowns cX5_floodedTowns 5 (some .int), .methodLink RX4 30 yX5_floodedTowns, .instanceMethod yX5_floodedTowns, .selects RX5 yX5_floodedTowns yX5_floodedTowns, .fieldLink RX4 33 "RiverVows$Matches" "ways" "I", .sameField "RiverVows$Matches" "RiverVows$Ways" "ways" "I", .fieldLink RX4 36 "RiverVows$Net" "husband" "[I", .fieldLink RX4 40 "RiverVows$Matches" "husband" "[I", .sameField "RiverVows$Matches" "RiverVows$Ways" "husband" "[I", .methodLink RX4 41 arraycopyName, .native arraycopyName, .static arraycopyName, .initialized "java/lang/System", .methodLink RX10 52 ⟨"RiverVows$Ways", "note", "(II)V"⟩, .sameMethod "RiverVows$Ways" "RiverVows$Ways" "note" "(II)V", .selects RX4 ⟨"RiverVows$Ways", "note", "(II)V"⟩ yX4_note, .instanceMethod yX4_note, .methodLink RX10 36 ⟨"RiverVows$Ways", "search", "(III)V"⟩, .sameMethod "RiverVows$Ways" "RiverVows$Ways" "search" "(III)V", .selects RX4 ⟨"RiverVows$Ways", "search", "(III)V"⟩ yX10_search, .instanceMethod yX10_search, .initialized RX10, .code yX4_end cX4_end 1 none, .methodLink RX10 40 ⟨"RiverVows$Ways", "end", "()V"⟩, .sameMethod "RiverVows$Ways" "RiverVows$Ways" "end" "()V", .selects RX4 ⟨"RiverVows$Ways", "end", "()V"⟩ yX4_end, .instanceMethod yX4_end, .methodLink RX12 320 ⟨"RiverVows$Matches", "refresh", "(LRiverVows$Land;)V"⟩, .sameMethod "RiverVows$Matches" "RiverVows$Ways" "refresh" "(LRiverVows$Land;)V", .selects RX4 ⟨"RiverVows$Matches", "refresh", "(LRiverVows$Land;)V"⟩ yX10_refresh, .instanceMethod yX10_refresh, .fieldLink RX12 323 "RiverVows$Matches" "ways" "I", .fieldLink RX12 326 "RiverVows$Matches" "leastDigging" "I"] ++ wsX120 ++ wsX30 ++ wsX40 ++ wsX50)
set_option maxRecDepth 20000 in
theorem pg_match_0_0 : GoodIn pw_match_0 (va_wsU RX12 320 RX4 "RiverVows$Ways" ⟨"RiverVows$Matches", "refresh", "(LRiverVows$Land;)V"⟩ yX10_refresh pw_refresh_X4) := goodIn_sub (by decide +kernel) (by decide +kernel)
set_option maxHeartbeats 4000000 in
set_option maxRecDepth 100000 in
theorem c_match_0 (l : Launch) (D : va_G) (k : Nat → ClassId) (sz : Nat) (qa : Nat → Nat)  : pMi l yX12_match pw_match_0 ({ frames := 4, cells := 0, slots := 0, locals := 128 }) D k [.ref (qa 0), .int 0] [((qa 0), .inr (9, [.ref (qa 1), .ref (qa 6), .ref (qa 9), .ref (qa 17), .ref (qa 18), .ref (qa 19), .ref (qa 20), .ref (qa 23), .ref (qa 25), .ref (qa 28), .ref (qa 29), .ref (qa 30), .ref (qa 31), .int 0, .int 0, .int 0])), ((qa 30), .inr (2, [.ref (qa 133), .ref (qa 134), .ref (qa 135), .ref (qa 136), .ref (qa 137), .ref (qa 138), .ref (qa 139), .int 0, .int 0, .int 0, .int 0, .int 0])), ((qa 20), .inr (4, [.ref (qa 21), .ref (qa 22), .ref (qa 30)])), ((qa 21), .inl (k 1, 6, .inl (fun _ => 0))), ((qa 22), .inl (k 1, 6, .inl (fun _ => 0))), ((qa 23), .inr (3, [.ref (qa 20), .ref (qa 24), .int 0, .int 0, .int 0, .int 0])), ((qa 24), .inl (k 1, 6, .inl (fun _ => 0)))] sz (S := Unit) (fun r u => r = 0) (fun u => []) 0 0 := by
  refine p_ofi (cc := cX12_match) (maxL := 2) (rt := .int) (by decide) rfl (Nat.le_of_ble_eq_true rfl) ?_
  intro p e s m below meth c hx hb hml hown hts hK hN A hA hP hD hS Q hret ls hl
  have hl : lv_has ls 2 [(0, .ref (qa 0)), (1, .int 0)] := hl
  have lf19 := hts (.fieldLink RX12 19 "RiverVows" "country" "LRiverVows$Land;") (by decide +kernel)
  have inX12 : ∀ w ∈ wsX120, w ∈ pw_match_0 := by decide +kernel
  have lf151 := hts (.fieldLink RX12 151 "RiverVows$Land" "rivers" "I") (by decide +kernel)
  have inX3 : ∀ w ∈ wsX30, w ∈ pw_match_0 := by decide +kernel
  have lf67 := hts (.fieldLink RX12 67 "RiverVows" "matches" "LRiverVows$Matches;") (by decide +kernel)
  have lf323 := hts (.fieldLink RX12 323 "RiverVows$Matches" "ways" "I") (by decide +kernel)
  have sf323 := hts (.sameField "RiverVows$Matches" "RiverVows$Ways" "ways" "I") (by decide +kernel)
  have inX4 : ∀ w ∈ wsX40, w ∈ pw_match_0 := by decide +kernel
  have lf326 := hts (.fieldLink RX12 326 "RiverVows$Matches" "leastDigging" "I") (by decide +kernel)
  refine lv_iload_n hx hb dX12_match_0 rfl (lv_at hl 1 rfl) ?_
  refine lv_if_lt (tgt := 17) hx hb dX12_match_1 (by decide) (fun h9 => absurd h9 (by decide)) (fun cx1 => ?_)
  refine lv_iload_n hx hb dX12_match_4 rfl (lv_at hl 1 rfl) ?_
  refine lv_iconst (v := 3) hx hb dX12_match_5 (by decide) ?_
  refine lv_aload_n hx hb dX12_match_6 rfl (lv_at hl 0 rfl) ?_
  refine va_get (ci := 9) (v := .ref (qa 30)) (C := RX12) (T := TX12) (N := 16) hx hb hts inX12 hown hK hP 0 rfl rfl 11 (by decide) lf19 (fun _ h9 => h9) rfl dX12_match_7 ?_
  refine va_get (ci := 2) (v := .int 0) (C := RX3) (T := TX3) (N := 12) hx hb hts inX3 hown hK hP 1 rfl rfl 7 (by decide) lf151 (fun _ h9 => h9) rfl dX12_match_10 ?_
  refine lv_iadd hx hb dX12_match_13 ?_
  refine p_topI (v := 3) (by decide) ?_
  refine lv_icmp_lt (tgt := 20) hx hb dX12_match_14 (by decide) (fun cx2 => ?_) (fun h9 => absurd (by decide) h9)
  refine lv_aload_n hx hb dX12_match_20 rfl (lv_at hl 0 rfl) ?_
  refine va_get (ci := 9) (v := .ref (qa 23)) (C := RX12) (T := TX12) (N := 16) hx hb hts inX12 hown hK hP 0 rfl rfl 7 (by decide) lf67 (fun _ h9 => h9) rfl dX12_match_21 ?_
  refine lv_aload_n hx hb dX12_match_24 rfl (lv_at hl 0 rfl) ?_
  refine va_get (ci := 9) (v := .ref (qa 30)) (C := RX12) (T := TX12) (N := 16) hx hb hts inX12 hown hK hP 0 rfl rfl 11 (by decide) lf19 (fun _ h9 => h9) rfl dX12_match_25 ?_
  refine p_jv (wr := [((qa 0), .inr (9, [.ref (qa 1), .ref (qa 6), .ref (qa 9), .ref (qa 17), .ref (qa 18), .ref (qa 19), .ref (qa 20), .ref (qa 23), .ref (qa 25), .ref (qa 28), .ref (qa 29), .ref (qa 30), .ref (qa 31), .int 0, .int 0, .int 0]))]) (va_runU (As := [.ref (qa 30)]) (rest := []) ⟨hx, hb, hml, hown, hts⟩ (c_refresh_X4 l D k _ (qa 23) (qa 24) (qa 20) (qa 21) (qa 22) (qa 30) (fun _ => 0) (fun _ => 0) (fun _ => 0) (qa 133) (qa 134) (qa 135) (qa 136) (qa 137) (qa 138) (qa 139)) (va_cwU 1 hts pg_match_0_0 rfl rfl rfl rfl (by decide +kernel) ⟨Nat.le_of_ble_eq_true rfl, Nat.le_of_ble_eq_true rfl⟩) (pV hK hN hP hD [5, 6, 2, 3, 4, 1] rfl (by decide) rfl 5 rfl rfl) rfl rfl hl.1 rfl (lv_room (Nat.le_of_ble_eq_true rfl)) dX12_match_28 ⟨by decide, by decide⟩) hP hD hS hA [5, 6, 2, 3, 4, 1] [0] rfl rfl (by decide) (by decide) (fun ux3 H locs wx4 hP hD hS => ?_)
  obtain ⟨gh_x6, rfl⟩ : ∃ z, z = ux3 := ⟨_, rfl⟩
  have hP : va_P D vwCl [((qa 0), .inr (9, [.ref (qa 1), .ref (qa 6), .ref (qa 9), .ref (qa 17), .ref (qa 18), .ref (qa 19), .ref (qa 20), .ref (qa 23), .ref (qa 25), .ref (qa 28), .ref (qa 29), .ref (qa 30), .ref (qa 31), .int 0, .int 0, .int 0])), ((qa 23), .inr (3, [.ref (qa 20), .ref (qa 24), .int 1, .int 1, .int 0, .int 0])), ((qa 24), .inl (k 1, 6, .inl gh_x6))] H := hP
  have hD : va_D A [((qa 0), .inr (9, [.ref (qa 1), .ref (qa 6), .ref (qa 9), .ref (qa 17), .ref (qa 18), .ref (qa 19), .ref (qa 20), .ref (qa 23), .ref (qa 25), .ref (qa 28), .ref (qa 29), .ref (qa 30), .ref (qa 31), .int 0, .int 0, .int 0])), ((qa 23), .inr (3, [.ref (qa 20), .ref (qa 24), .int 1, .int 1, .int 0, .int 0])), ((qa 24), .inl (k 1, 6, .inl gh_x6))] := hD
  refine lv_aload_n hx hb dX12_match_31 rfl (lv_at hl 0 rfl) ?_
  refine va_get (ci := 9) (v := .ref (qa 23)) (C := RX12) (T := TX12) (N := 16) hx hb hts inX12 hown hK hP 0 rfl rfl 7 (by decide) lf67 (fun _ h9 => h9) rfl dX12_match_32 ?_
  refine va_get (ci := 3) (v := .int 1) (C := RX4) (T := TX4) (N := 6) hx hb hts inX4 hown hK hP 1 rfl rfl 2 (by decide) lf323 (fun x9 h9 => u_same sf323 x9 h9) rfl dX12_match_35 ?_
  refine lv_if_ne (tgt := 44) hx hb dX12_match_38 (by decide) (fun cx7 => ?_) (fun h9 => absurd h9 (by decide))
  refine lv_iload_n hx hb dX12_match_44 rfl (lv_at hl 1 rfl) ?_
  refine lv_tableIn (tgt := 72) hx hb dX12_match_45 (by decide) (by decide) (by rfl) (by decide) ?_
  refine lv_aload_n hx hb dX12_match_72 rfl (lv_at hl 0 rfl) ?_
  refine va_get (ci := 9) (v := .ref (qa 23)) (C := RX12) (T := TX12) (N := 16) hx hb hts inX12 hown hK hP 0 rfl rfl 7 (by decide) lf67 (fun _ h9 => h9) rfl dX12_match_73 ?_
  refine va_get (ci := 3) (v := .int 0) (C := RX4) (T := TX4) (N := 6) hx hb hts inX4 hown hK hP 1 rfl rfl 4 (by decide) lf326 (fun _ h9 => h9) rfl dX12_match_76 ?_
  exact hret _ _ _ _ _ _ 0 () (by decide) (by decide) dX12_match_79 rfl rfl (hP.sub [] rfl) (hD.sub [] (by decide) rfl) hS
def pw_match_1 : List Cond := .code yX12_match cX12_match 2 (some .int) :: ([.fieldLink RX12 19 "RiverVows" "country" "LRiverVows$Land;", .fieldLink RX12 151 "RiverVows$Land" "rivers" "I", .fieldLink RX12 67 "RiverVows" "matches" "LRiverVows$Matches;", .code yX10_refresh cX10_refresh 2 none, .fieldLink RX10 19 "RiverVows$Ways" "fresh" "Z", .fieldLink RX10 23 "RiverVows$Ways" "ways" "I", .fieldLink RX10 15 "RiverVows$Ways" "net" "LRiverVows$Net;", .code yX5_clear cX5_clear 3 none, .fieldLink RX5 18 "RiverVows$Net" "land" "LRiverVows$Land;", .fieldLink RX5 9 "RiverVows$Net" "husband" "[I", .fieldLink RX5 15 "RiverVows$Net" "whole" "[I", .methodLink RX10 27 yX5_clear, .instanceMethod yX5_clear, .selects RX5 yX5_clear yX5_clear, .initialized RX5, .code yX4_begin cX4_begin 1 none, .fieldLink RX4 9 "RiverVows$Matches" "leastDigging" "I", .fieldLink RX4 15 "RiverVows$Matches" "fewest" "I", .methodLink RX10 33 ⟨"RiverVows$Ways", "begin", "()V"⟩, .sameMethod "RiverVows$Ways" "RiverVows$Ways" "begin" "()V", .selects RX4 ⟨"RiverVows$Ways", "begin", "()V"⟩ yX4_begin, .instanceMethod yX4_begin, .initialized RX4, .code yX10_search cX10_search 5 none, .fieldLink RX10 43 "RiverVows$Net" "land" "LRiverVows$Land;", .fieldLink RX10 47 "RiverVows$Land" "rivers" "I", .code yX4_note cX4_note 4 none, .fieldLink RX4 18 "RiverVows$Matches" "net" "LRiverVows$Net;", .sameField "RiverVows$Matches" "RiverVows$Ways" "net" "LRiverVows$Net;", .code yX5_dryMills cX5_dryMills 5 (some .int), .fieldLink RX5 26 "RiverVows$Land" "rivers" "I", .methodLink RX4 24 yX5_dryMills, .instanceMethod yX5_dryMills, .selects RX5 yX5_dryMills yX5_dryMills, .code yX5_floodedTowns cX5_floodedTowns 5 (some .int), .methodLink RX4 30 yX5_floodedTowns, .instanceMethod yX5_floodedTowns, .selects RX5 yX5_floodedTowns yX5_floodedTowns, .fieldLink RX4 33 "RiverVows$Matches" "ways" "I", .sameField "RiverVows$Matches" "RiverVows$Ways" "ways" "I", .fieldLink RX4 36 "RiverVows$Net" "husband" "[I", .fieldLink RX4 40 "RiverVows$Matches" "husband" "[I", .sameField "RiverVows$Matches" "RiverVows$Ways" "husband" "[I", .methodLink RX4 41 arraycopyName, .native arraycopyName, .static arraycopyName, .initialized "java/lang/System", .methodLink RX10 52 ⟨"RiverVows$Ways", "note", "(II)V"⟩, .sameMethod "RiverVows$Ways" "RiverVows$Ways" "note" "(II)V", .selects RX4 ⟨"RiverVows$Ways", "note", "(II)V"⟩ yX4_note, .instanceMethod yX4_note, .methodLink RX10 36 ⟨"RiverVows$Ways", "search", "(III)V"⟩, .sameMethod "RiverVows$Ways" "RiverVows$Ways" "search" "(III)V", .selects RX4 ⟨"RiverVows$Ways", "search", "(III)V"⟩ yX10_search, .instanceMethod yX10_search, .initialized RX10, .code yX4_end cX4_end 1 none, .methodLink RX10 40 ⟨"RiverVows$Ways", "end", "()V"⟩, .sameMethod "RiverVows$Ways" "RiverVows$Ways" "end" "()V", .selects RX4 ⟨"RiverVows$Ways", "end", "()V"⟩ yX4_end, .instanceMethod yX4_end, .methodLink RX12 320 ⟨"RiverVows$Matches", "refresh", "(LRiverVows$Land;)V"⟩, .sameMethod "RiverVows$Matches" "RiverVows$Ways" "refresh" "(LRiverVows$Land;)V", .selects RX4 ⟨"RiverVows$Matches", "refresh", "(LRiverVows$Land;)V"⟩ yX10_refresh, .instanceMethod yX10_refresh, .fieldLink RX12 323 "RiverVows$Matches" "ways" "I", .fieldLink RX12 329 "RiverVows$Matches" "fewest" "I"] ++ wsX120 ++ wsX30 ++ wsX40 ++ wsX50)
set_option maxRecDepth 20000 in
theorem pg_match_1_0 : GoodIn pw_match_1 (va_wsU RX12 320 RX4 "RiverVows$Ways" ⟨"RiverVows$Matches", "refresh", "(LRiverVows$Land;)V"⟩ yX10_refresh pw_refresh_X4) := goodIn_sub (by decide +kernel) (by decide +kernel)
set_option maxHeartbeats 4000000 in
set_option maxRecDepth 100000 in
theorem c_match_1 (l : Launch) (D : va_G) (k : Nat → ClassId) (sz : Nat) (qa : Nat → Nat)  : pMi l yX12_match pw_match_1 ({ frames := 4, cells := 0, slots := 0, locals := 128 }) D k [.ref (qa 0), .int 1] [((qa 0), .inr (9, [.ref (qa 1), .ref (qa 6), .ref (qa 9), .ref (qa 17), .ref (qa 18), .ref (qa 19), .ref (qa 20), .ref (qa 23), .ref (qa 25), .ref (qa 28), .ref (qa 29), .ref (qa 30), .ref (qa 31), .int 0, .int 0, .int 0])), ((qa 30), .inr (2, [.ref (qa 133), .ref (qa 134), .ref (qa 135), .ref (qa 136), .ref (qa 137), .ref (qa 138), .ref (qa 139), .int 0, .int 0, .int 0, .int 0, .int 0])), ((qa 20), .inr (4, [.ref (qa 21), .ref (qa 22), .ref (qa 30)])), ((qa 21), .inl (k 1, 6, .inl (fun _ => 0))), ((qa 22), .inl (k 1, 6, .inl (fun _ => 0))), ((qa 23), .inr (3, [.ref (qa 20), .ref (qa 24), .int 0, .int 0, .int 0, .int 0])), ((qa 24), .inl (k 1, 6, .inl (fun _ => 0)))] sz (S := Unit) (fun r u => r = 0) (fun u => []) 0 0 := by
  refine p_ofi (cc := cX12_match) (maxL := 2) (rt := .int) (by decide) rfl (Nat.le_of_ble_eq_true rfl) ?_
  intro p e s m below meth c hx hb hml hown hts hK hN A hA hP hD hS Q hret ls hl
  have hl : lv_has ls 2 [(0, .ref (qa 0)), (1, .int 1)] := hl
  have lf19 := hts (.fieldLink RX12 19 "RiverVows" "country" "LRiverVows$Land;") (by decide +kernel)
  have inX12 : ∀ w ∈ wsX120, w ∈ pw_match_1 := by decide +kernel
  have lf151 := hts (.fieldLink RX12 151 "RiverVows$Land" "rivers" "I") (by decide +kernel)
  have inX3 : ∀ w ∈ wsX30, w ∈ pw_match_1 := by decide +kernel
  have lf67 := hts (.fieldLink RX12 67 "RiverVows" "matches" "LRiverVows$Matches;") (by decide +kernel)
  have lf323 := hts (.fieldLink RX12 323 "RiverVows$Matches" "ways" "I") (by decide +kernel)
  have sf323 := hts (.sameField "RiverVows$Matches" "RiverVows$Ways" "ways" "I") (by decide +kernel)
  have inX4 : ∀ w ∈ wsX40, w ∈ pw_match_1 := by decide +kernel
  have lf329 := hts (.fieldLink RX12 329 "RiverVows$Matches" "fewest" "I") (by decide +kernel)
  refine lv_iload_n hx hb dX12_match_0 rfl (lv_at hl 1 rfl) ?_
  refine lv_if_lt (tgt := 17) hx hb dX12_match_1 (by decide) (fun h9 => absurd h9 (by decide)) (fun cx1 => ?_)
  refine lv_iload_n hx hb dX12_match_4 rfl (lv_at hl 1 rfl) ?_
  refine lv_iconst (v := 3) hx hb dX12_match_5 (by decide) ?_
  refine lv_aload_n hx hb dX12_match_6 rfl (lv_at hl 0 rfl) ?_
  refine va_get (ci := 9) (v := .ref (qa 30)) (C := RX12) (T := TX12) (N := 16) hx hb hts inX12 hown hK hP 0 rfl rfl 11 (by decide) lf19 (fun _ h9 => h9) rfl dX12_match_7 ?_
  refine va_get (ci := 2) (v := .int 0) (C := RX3) (T := TX3) (N := 12) hx hb hts inX3 hown hK hP 1 rfl rfl 7 (by decide) lf151 (fun _ h9 => h9) rfl dX12_match_10 ?_
  refine lv_iadd hx hb dX12_match_13 ?_
  refine p_topI (v := 3) (by decide) ?_
  refine lv_icmp_lt (tgt := 20) hx hb dX12_match_14 (by decide) (fun cx2 => ?_) (fun h9 => absurd (by decide) h9)
  refine lv_aload_n hx hb dX12_match_20 rfl (lv_at hl 0 rfl) ?_
  refine va_get (ci := 9) (v := .ref (qa 23)) (C := RX12) (T := TX12) (N := 16) hx hb hts inX12 hown hK hP 0 rfl rfl 7 (by decide) lf67 (fun _ h9 => h9) rfl dX12_match_21 ?_
  refine lv_aload_n hx hb dX12_match_24 rfl (lv_at hl 0 rfl) ?_
  refine va_get (ci := 9) (v := .ref (qa 30)) (C := RX12) (T := TX12) (N := 16) hx hb hts inX12 hown hK hP 0 rfl rfl 11 (by decide) lf19 (fun _ h9 => h9) rfl dX12_match_25 ?_
  refine p_jv (wr := [((qa 0), .inr (9, [.ref (qa 1), .ref (qa 6), .ref (qa 9), .ref (qa 17), .ref (qa 18), .ref (qa 19), .ref (qa 20), .ref (qa 23), .ref (qa 25), .ref (qa 28), .ref (qa 29), .ref (qa 30), .ref (qa 31), .int 0, .int 0, .int 0]))]) (va_runU (As := [.ref (qa 30)]) (rest := []) ⟨hx, hb, hml, hown, hts⟩ (c_refresh_X4 l D k _ (qa 23) (qa 24) (qa 20) (qa 21) (qa 22) (qa 30) (fun _ => 0) (fun _ => 0) (fun _ => 0) (qa 133) (qa 134) (qa 135) (qa 136) (qa 137) (qa 138) (qa 139)) (va_cwU 1 hts pg_match_1_0 rfl rfl rfl rfl (by decide +kernel) ⟨Nat.le_of_ble_eq_true rfl, Nat.le_of_ble_eq_true rfl⟩) (pV hK hN hP hD [5, 6, 2, 3, 4, 1] rfl (by decide) rfl 5 rfl rfl) rfl rfl hl.1 rfl (lv_room (Nat.le_of_ble_eq_true rfl)) dX12_match_28 ⟨by decide, by decide⟩) hP hD hS hA [5, 6, 2, 3, 4, 1] [0] rfl rfl (by decide) (by decide) (fun ux3 H locs wx4 hP hD hS => ?_)
  obtain ⟨gh_x6, rfl⟩ : ∃ z, z = ux3 := ⟨_, rfl⟩
  have hP : va_P D vwCl [((qa 0), .inr (9, [.ref (qa 1), .ref (qa 6), .ref (qa 9), .ref (qa 17), .ref (qa 18), .ref (qa 19), .ref (qa 20), .ref (qa 23), .ref (qa 25), .ref (qa 28), .ref (qa 29), .ref (qa 30), .ref (qa 31), .int 0, .int 0, .int 0])), ((qa 23), .inr (3, [.ref (qa 20), .ref (qa 24), .int 1, .int 1, .int 0, .int 0])), ((qa 24), .inl (k 1, 6, .inl gh_x6))] H := hP
  have hD : va_D A [((qa 0), .inr (9, [.ref (qa 1), .ref (qa 6), .ref (qa 9), .ref (qa 17), .ref (qa 18), .ref (qa 19), .ref (qa 20), .ref (qa 23), .ref (qa 25), .ref (qa 28), .ref (qa 29), .ref (qa 30), .ref (qa 31), .int 0, .int 0, .int 0])), ((qa 23), .inr (3, [.ref (qa 20), .ref (qa 24), .int 1, .int 1, .int 0, .int 0])), ((qa 24), .inl (k 1, 6, .inl gh_x6))] := hD
  refine lv_aload_n hx hb dX12_match_31 rfl (lv_at hl 0 rfl) ?_
  refine va_get (ci := 9) (v := .ref (qa 23)) (C := RX12) (T := TX12) (N := 16) hx hb hts inX12 hown hK hP 0 rfl rfl 7 (by decide) lf67 (fun _ h9 => h9) rfl dX12_match_32 ?_
  refine va_get (ci := 3) (v := .int 1) (C := RX4) (T := TX4) (N := 6) hx hb hts inX4 hown hK hP 1 rfl rfl 2 (by decide) lf323 (fun x9 h9 => u_same sf323 x9 h9) rfl dX12_match_35 ?_
  refine lv_if_ne (tgt := 44) hx hb dX12_match_38 (by decide) (fun cx7 => ?_) (fun h9 => absurd h9 (by decide))
  refine lv_iload_n hx hb dX12_match_44 rfl (lv_at hl 1 rfl) ?_
  refine lv_tableIn (tgt := 80) hx hb dX12_match_45 (by decide) (by decide) (by rfl) (by decide) ?_
  refine lv_aload_n hx hb dX12_match_80 rfl (lv_at hl 0 rfl) ?_
  refine va_get (ci := 9) (v := .ref (qa 23)) (C := RX12) (T := TX12) (N := 16) hx hb hts inX12 hown hK hP 0 rfl rfl 7 (by decide) lf67 (fun _ h9 => h9) rfl dX12_match_81 ?_
  refine va_get (ci := 3) (v := .int 0) (C := RX4) (T := TX4) (N := 6) hx hb hts inX4 hown hK hP 1 rfl rfl 5 (by decide) lf329 (fun _ h9 => h9) rfl dX12_match_84 ?_
  exact hret _ _ _ _ _ _ 0 () (by decide) (by decide) dX12_match_87 rfl rfl (hP.sub [] rfl) (hD.sub [] (by decide) rfl) hS
def pw_match_2 : List Cond := .code yX12_match cX12_match 2 (some .int) :: ([.fieldLink RX12 19 "RiverVows" "country" "LRiverVows$Land;", .fieldLink RX12 151 "RiverVows$Land" "rivers" "I", .fieldLink RX12 67 "RiverVows" "matches" "LRiverVows$Matches;", .code yX10_refresh cX10_refresh 2 none, .fieldLink RX10 19 "RiverVows$Ways" "fresh" "Z", .fieldLink RX10 23 "RiverVows$Ways" "ways" "I", .fieldLink RX10 15 "RiverVows$Ways" "net" "LRiverVows$Net;", .code yX5_clear cX5_clear 3 none, .fieldLink RX5 18 "RiverVows$Net" "land" "LRiverVows$Land;", .fieldLink RX5 9 "RiverVows$Net" "husband" "[I", .fieldLink RX5 15 "RiverVows$Net" "whole" "[I", .methodLink RX10 27 yX5_clear, .instanceMethod yX5_clear, .selects RX5 yX5_clear yX5_clear, .initialized RX5, .code yX4_begin cX4_begin 1 none, .fieldLink RX4 9 "RiverVows$Matches" "leastDigging" "I", .fieldLink RX4 15 "RiverVows$Matches" "fewest" "I", .methodLink RX10 33 ⟨"RiverVows$Ways", "begin", "()V"⟩, .sameMethod "RiverVows$Ways" "RiverVows$Ways" "begin" "()V", .selects RX4 ⟨"RiverVows$Ways", "begin", "()V"⟩ yX4_begin, .instanceMethod yX4_begin, .initialized RX4, .code yX10_search cX10_search 5 none, .fieldLink RX10 43 "RiverVows$Net" "land" "LRiverVows$Land;", .fieldLink RX10 47 "RiverVows$Land" "rivers" "I", .code yX4_note cX4_note 4 none, .fieldLink RX4 18 "RiverVows$Matches" "net" "LRiverVows$Net;", .sameField "RiverVows$Matches" "RiverVows$Ways" "net" "LRiverVows$Net;", .code yX5_dryMills cX5_dryMills 5 (some .int), .fieldLink RX5 26 "RiverVows$Land" "rivers" "I", .methodLink RX4 24 yX5_dryMills, .instanceMethod yX5_dryMills, .selects RX5 yX5_dryMills yX5_dryMills, .code yX5_floodedTowns cX5_floodedTowns 5 (some .int), .methodLink RX4 30 yX5_floodedTowns, .instanceMethod yX5_floodedTowns, .selects RX5 yX5_floodedTowns yX5_floodedTowns, .fieldLink RX4 33 "RiverVows$Matches" "ways" "I", .sameField "RiverVows$Matches" "RiverVows$Ways" "ways" "I", .fieldLink RX4 36 "RiverVows$Net" "husband" "[I", .fieldLink RX4 40 "RiverVows$Matches" "husband" "[I", .sameField "RiverVows$Matches" "RiverVows$Ways" "husband" "[I", .methodLink RX4 41 arraycopyName, .native arraycopyName, .static arraycopyName, .initialized "java/lang/System", .methodLink RX10 52 ⟨"RiverVows$Ways", "note", "(II)V"⟩, .sameMethod "RiverVows$Ways" "RiverVows$Ways" "note" "(II)V", .selects RX4 ⟨"RiverVows$Ways", "note", "(II)V"⟩ yX4_note, .instanceMethod yX4_note, .methodLink RX10 36 ⟨"RiverVows$Ways", "search", "(III)V"⟩, .sameMethod "RiverVows$Ways" "RiverVows$Ways" "search" "(III)V", .selects RX4 ⟨"RiverVows$Ways", "search", "(III)V"⟩ yX10_search, .instanceMethod yX10_search, .initialized RX10, .code yX4_end cX4_end 1 none, .methodLink RX10 40 ⟨"RiverVows$Ways", "end", "()V"⟩, .sameMethod "RiverVows$Ways" "RiverVows$Ways" "end" "()V", .selects RX4 ⟨"RiverVows$Ways", "end", "()V"⟩ yX4_end, .instanceMethod yX4_end, .methodLink RX12 320 ⟨"RiverVows$Matches", "refresh", "(LRiverVows$Land;)V"⟩, .sameMethod "RiverVows$Matches" "RiverVows$Ways" "refresh" "(LRiverVows$Land;)V", .selects RX4 ⟨"RiverVows$Matches", "refresh", "(LRiverVows$Land;)V"⟩ yX10_refresh, .instanceMethod yX10_refresh, .fieldLink RX12 323 "RiverVows$Matches" "ways" "I"] ++ wsX120 ++ wsX30 ++ wsX40 ++ wsX50)
set_option maxRecDepth 20000 in
theorem pg_match_2_0 : GoodIn pw_match_2 (va_wsU RX12 320 RX4 "RiverVows$Ways" ⟨"RiverVows$Matches", "refresh", "(LRiverVows$Land;)V"⟩ yX10_refresh pw_refresh_X4) := goodIn_sub (by decide +kernel) (by decide +kernel)
set_option maxHeartbeats 4000000 in
set_option maxRecDepth 100000 in
theorem c_match_2 (l : Launch) (D : va_G) (k : Nat → ClassId) (sz : Nat) (qa : Nat → Nat)  : pMi l yX12_match pw_match_2 ({ frames := 4, cells := 0, slots := 0, locals := 128 }) D k [.ref (qa 0), .int 2] [((qa 0), .inr (9, [.ref (qa 1), .ref (qa 6), .ref (qa 9), .ref (qa 17), .ref (qa 18), .ref (qa 19), .ref (qa 20), .ref (qa 23), .ref (qa 25), .ref (qa 28), .ref (qa 29), .ref (qa 30), .ref (qa 31), .int 0, .int 0, .int 0])), ((qa 30), .inr (2, [.ref (qa 133), .ref (qa 134), .ref (qa 135), .ref (qa 136), .ref (qa 137), .ref (qa 138), .ref (qa 139), .int 0, .int 0, .int 0, .int 0, .int 0])), ((qa 20), .inr (4, [.ref (qa 21), .ref (qa 22), .ref (qa 30)])), ((qa 21), .inl (k 1, 6, .inl (fun _ => 0))), ((qa 22), .inl (k 1, 6, .inl (fun _ => 0))), ((qa 23), .inr (3, [.ref (qa 20), .ref (qa 24), .int 0, .int 0, .int 0, .int 0])), ((qa 24), .inl (k 1, 6, .inl (fun _ => 0)))] sz (S := Unit) (fun r u => r = 1) (fun u => []) 0 0 := by
  refine p_ofi (cc := cX12_match) (maxL := 2) (rt := .int) (by decide) rfl (Nat.le_of_ble_eq_true rfl) ?_
  intro p e s m below meth c hx hb hml hown hts hK hN A hA hP hD hS Q hret ls hl
  have hl : lv_has ls 2 [(0, .ref (qa 0)), (1, .int 2)] := hl
  have lf19 := hts (.fieldLink RX12 19 "RiverVows" "country" "LRiverVows$Land;") (by decide +kernel)
  have inX12 : ∀ w ∈ wsX120, w ∈ pw_match_2 := by decide +kernel
  have lf151 := hts (.fieldLink RX12 151 "RiverVows$Land" "rivers" "I") (by decide +kernel)
  have inX3 : ∀ w ∈ wsX30, w ∈ pw_match_2 := by decide +kernel
  have lf67 := hts (.fieldLink RX12 67 "RiverVows" "matches" "LRiverVows$Matches;") (by decide +kernel)
  have lf323 := hts (.fieldLink RX12 323 "RiverVows$Matches" "ways" "I") (by decide +kernel)
  have sf323 := hts (.sameField "RiverVows$Matches" "RiverVows$Ways" "ways" "I") (by decide +kernel)
  have inX4 : ∀ w ∈ wsX40, w ∈ pw_match_2 := by decide +kernel
  refine lv_iload_n hx hb dX12_match_0 rfl (lv_at hl 1 rfl) ?_
  refine lv_if_lt (tgt := 17) hx hb dX12_match_1 (by decide) (fun h9 => absurd h9 (by decide)) (fun cx1 => ?_)
  refine lv_iload_n hx hb dX12_match_4 rfl (lv_at hl 1 rfl) ?_
  refine lv_iconst (v := 3) hx hb dX12_match_5 (by decide) ?_
  refine lv_aload_n hx hb dX12_match_6 rfl (lv_at hl 0 rfl) ?_
  refine va_get (ci := 9) (v := .ref (qa 30)) (C := RX12) (T := TX12) (N := 16) hx hb hts inX12 hown hK hP 0 rfl rfl 11 (by decide) lf19 (fun _ h9 => h9) rfl dX12_match_7 ?_
  refine va_get (ci := 2) (v := .int 0) (C := RX3) (T := TX3) (N := 12) hx hb hts inX3 hown hK hP 1 rfl rfl 7 (by decide) lf151 (fun _ h9 => h9) rfl dX12_match_10 ?_
  refine lv_iadd hx hb dX12_match_13 ?_
  refine p_topI (v := 3) (by decide) ?_
  refine lv_icmp_lt (tgt := 20) hx hb dX12_match_14 (by decide) (fun cx2 => ?_) (fun h9 => absurd (by decide) h9)
  refine lv_aload_n hx hb dX12_match_20 rfl (lv_at hl 0 rfl) ?_
  refine va_get (ci := 9) (v := .ref (qa 23)) (C := RX12) (T := TX12) (N := 16) hx hb hts inX12 hown hK hP 0 rfl rfl 7 (by decide) lf67 (fun _ h9 => h9) rfl dX12_match_21 ?_
  refine lv_aload_n hx hb dX12_match_24 rfl (lv_at hl 0 rfl) ?_
  refine va_get (ci := 9) (v := .ref (qa 30)) (C := RX12) (T := TX12) (N := 16) hx hb hts inX12 hown hK hP 0 rfl rfl 11 (by decide) lf19 (fun _ h9 => h9) rfl dX12_match_25 ?_
  refine p_jv (wr := [((qa 0), .inr (9, [.ref (qa 1), .ref (qa 6), .ref (qa 9), .ref (qa 17), .ref (qa 18), .ref (qa 19), .ref (qa 20), .ref (qa 23), .ref (qa 25), .ref (qa 28), .ref (qa 29), .ref (qa 30), .ref (qa 31), .int 0, .int 0, .int 0]))]) (va_runU (As := [.ref (qa 30)]) (rest := []) ⟨hx, hb, hml, hown, hts⟩ (c_refresh_X4 l D k _ (qa 23) (qa 24) (qa 20) (qa 21) (qa 22) (qa 30) (fun _ => 0) (fun _ => 0) (fun _ => 0) (qa 133) (qa 134) (qa 135) (qa 136) (qa 137) (qa 138) (qa 139)) (va_cwU 1 hts pg_match_2_0 rfl rfl rfl rfl (by decide +kernel) ⟨Nat.le_of_ble_eq_true rfl, Nat.le_of_ble_eq_true rfl⟩) (pV hK hN hP hD [5, 6, 2, 3, 4, 1] rfl (by decide) rfl 5 rfl rfl) rfl rfl hl.1 rfl (lv_room (Nat.le_of_ble_eq_true rfl)) dX12_match_28 ⟨by decide, by decide⟩) hP hD hS hA [5, 6, 2, 3, 4, 1] [0] rfl rfl (by decide) (by decide) (fun ux3 H locs wx4 hP hD hS => ?_)
  obtain ⟨gh_x6, rfl⟩ : ∃ z, z = ux3 := ⟨_, rfl⟩
  have hP : va_P D vwCl [((qa 0), .inr (9, [.ref (qa 1), .ref (qa 6), .ref (qa 9), .ref (qa 17), .ref (qa 18), .ref (qa 19), .ref (qa 20), .ref (qa 23), .ref (qa 25), .ref (qa 28), .ref (qa 29), .ref (qa 30), .ref (qa 31), .int 0, .int 0, .int 0])), ((qa 23), .inr (3, [.ref (qa 20), .ref (qa 24), .int 1, .int 1, .int 0, .int 0])), ((qa 24), .inl (k 1, 6, .inl gh_x6))] H := hP
  have hD : va_D A [((qa 0), .inr (9, [.ref (qa 1), .ref (qa 6), .ref (qa 9), .ref (qa 17), .ref (qa 18), .ref (qa 19), .ref (qa 20), .ref (qa 23), .ref (qa 25), .ref (qa 28), .ref (qa 29), .ref (qa 30), .ref (qa 31), .int 0, .int 0, .int 0])), ((qa 23), .inr (3, [.ref (qa 20), .ref (qa 24), .int 1, .int 1, .int 0, .int 0])), ((qa 24), .inl (k 1, 6, .inl gh_x6))] := hD
  refine lv_aload_n hx hb dX12_match_31 rfl (lv_at hl 0 rfl) ?_
  refine va_get (ci := 9) (v := .ref (qa 23)) (C := RX12) (T := TX12) (N := 16) hx hb hts inX12 hown hK hP 0 rfl rfl 7 (by decide) lf67 (fun _ h9 => h9) rfl dX12_match_32 ?_
  refine va_get (ci := 3) (v := .int 1) (C := RX4) (T := TX4) (N := 6) hx hb hts inX4 hown hK hP 1 rfl rfl 2 (by decide) lf323 (fun x9 h9 => u_same sf323 x9 h9) rfl dX12_match_35 ?_
  refine lv_if_ne (tgt := 44) hx hb dX12_match_38 (by decide) (fun cx7 => ?_) (fun h9 => absurd h9 (by decide))
  refine lv_iload_n hx hb dX12_match_44 rfl (lv_at hl 1 rfl) ?_
  refine lv_tableIn (tgt := 88) hx hb dX12_match_45 (by decide) (by decide) (by rfl) (by decide) ?_
  refine lv_aload_n hx hb dX12_match_88 rfl (lv_at hl 0 rfl) ?_
  refine va_get (ci := 9) (v := .ref (qa 23)) (C := RX12) (T := TX12) (N := 16) hx hb hts inX12 hown hK hP 0 rfl rfl 7 (by decide) lf67 (fun _ h9 => h9) rfl dX12_match_89 ?_
  refine va_get (ci := 3) (v := .int 1) (C := RX4) (T := TX4) (N := 6) hx hb hts inX4 hown hK hP 1 rfl rfl 2 (by decide) lf323 (fun x9 h9 => u_same sf323 x9 h9) rfl dX12_match_92 ?_
  exact hret _ _ _ _ _ _ 1 () (by decide) (by decide) dX12_match_95 rfl rfl (hP.sub [] rfl) (hD.sub [] (by decide) rfl) hS
def pw_match_lo : List Cond := .code yX12_match cX12_match 2 (some .int) :: ([])
set_option maxHeartbeats 4000000 in
set_option maxRecDepth 100000 in
theorem c_match_lo (l : Launch) (D : va_G) (k : Nat → ClassId) (sz : Nat) (qa : Nat → Nat) (w : Int32) (hw : w < 0) : pMi l yX12_match pw_match_lo ({ frames := 0, cells := 0, slots := 0, locals := 0 }) D k [.ref (qa 0), .int w] [((qa 0), .inr (9, [.ref (qa 1), .ref (qa 6), .ref (qa 9), .ref (qa 17), .ref (qa 18), .ref (qa 19), .ref (qa 20), .ref (qa 23), .ref (qa 25), .ref (qa 28), .ref (qa 29), .ref (qa 30), .ref (qa 31), .int 0, .int 0, .int 0])), ((qa 30), .inr (2, [.ref (qa 133), .ref (qa 134), .ref (qa 135), .ref (qa 136), .ref (qa 137), .ref (qa 138), .ref (qa 139), .int 0, .int 0, .int 0, .int 0, .int 0])), ((qa 20), .inr (4, [.ref (qa 21), .ref (qa 22), .ref (qa 30)])), ((qa 21), .inl (k 1, 6, .inl (fun _ => 0))), ((qa 22), .inl (k 1, 6, .inl (fun _ => 0))), ((qa 23), .inr (3, [.ref (qa 20), .ref (qa 24), .int 0, .int 0, .int 0, .int 0])), ((qa 24), .inl (k 1, 6, .inl (fun _ => 0)))] sz (S := Unit) (fun r u => r = (-2)) (fun u => []) 0 0 := by
  refine p_ofi (cc := cX12_match) (maxL := 2) (rt := .int) (by decide) rfl (Nat.le_of_ble_eq_true rfl) ?_
  intro p e s m below meth c hx hb hml hown hts hK hN A hA hP hD hS Q hret ls hl
  have hl : lv_has ls 2 [(0, .ref (qa 0)), (1, .int w)] := hl
  refine lv_iload_n hx hb dX12_match_0 rfl (lv_at hl 1 rfl) ?_
  refine lv_if_lt (tgt := 17) hx hb dX12_match_1 (by decide) (fun cx1 => ?_) (fun h9 => absurd hw h9)
  refine lv_bipush (v := (-2)) hx hb dX12_match_17 (by decide) ?_
  exact hret _ _ _ _ _ _ (-2) () (by decide) (by decide) dX12_match_19 rfl rfl (hP.sub [] rfl) (hD.sub [] (by decide) rfl) hS
def pw_match_hi : List Cond := .code yX12_match cX12_match 2 (some .int) :: ([.fieldLink RX12 19 "RiverVows" "country" "LRiverVows$Land;", .fieldLink RX12 151 "RiverVows$Land" "rivers" "I"] ++ wsX120 ++ wsX30)
set_option maxHeartbeats 4000000 in
set_option maxRecDepth 100000 in
theorem c_match_hi (l : Launch) (D : va_G) (k : Nat → ClassId) (sz : Nat) (qa : Nat → Nat) (w : Int32) (hw : 2 < w) : pMi l yX12_match pw_match_hi ({ frames := 0, cells := 0, slots := 0, locals := 0 }) D k [.ref (qa 0), .int w] [((qa 0), .inr (9, [.ref (qa 1), .ref (qa 6), .ref (qa 9), .ref (qa 17), .ref (qa 18), .ref (qa 19), .ref (qa 20), .ref (qa 23), .ref (qa 25), .ref (qa 28), .ref (qa 29), .ref (qa 30), .ref (qa 31), .int 0, .int 0, .int 0])), ((qa 30), .inr (2, [.ref (qa 133), .ref (qa 134), .ref (qa 135), .ref (qa 136), .ref (qa 137), .ref (qa 138), .ref (qa 139), .int 0, .int 0, .int 0, .int 0, .int 0])), ((qa 20), .inr (4, [.ref (qa 21), .ref (qa 22), .ref (qa 30)])), ((qa 21), .inl (k 1, 6, .inl (fun _ => 0))), ((qa 22), .inl (k 1, 6, .inl (fun _ => 0))), ((qa 23), .inr (3, [.ref (qa 20), .ref (qa 24), .int 0, .int 0, .int 0, .int 0])), ((qa 24), .inl (k 1, 6, .inl (fun _ => 0)))] sz (S := Unit) (fun r u => r = (-2)) (fun u => []) 0 0 := by
  refine p_ofi (cc := cX12_match) (maxL := 2) (rt := .int) (by decide) rfl (Nat.le_of_ble_eq_true rfl) ?_
  intro p e s m below meth c hx hb hml hown hts hK hN A hA hP hD hS Q hret ls hl
  have hl : lv_has ls 2 [(0, .ref (qa 0)), (1, .int w)] := hl
  have lf19 := hts (.fieldLink RX12 19 "RiverVows" "country" "LRiverVows$Land;") (by decide +kernel)
  have inX12 : ∀ w ∈ wsX120, w ∈ pw_match_hi := by decide +kernel
  have lf151 := hts (.fieldLink RX12 151 "RiverVows$Land" "rivers" "I") (by decide +kernel)
  have inX3 : ∀ w ∈ wsX30, w ∈ pw_match_hi := by decide +kernel
  refine lv_iload_n hx hb dX12_match_0 rfl (lv_at hl 1 rfl) ?_
  refine lv_if_lt (tgt := 17) hx hb dX12_match_1 (by decide) (fun h9 => absurd h9 (show ¬ w < 0 by revert hw; simp only [Int32.lt_iff_toInt_lt, Int32.le_iff_toInt_le, ← Int32.toInt_inj, (by decide : (0 : Int32).toInt = 0), (by decide : (2 : Int32).toInt = 2)]; omega)) (fun cx1 => ?_)
  refine lv_iload_n hx hb dX12_match_4 rfl (lv_at hl 1 rfl) ?_
  refine lv_iconst (v := 3) hx hb dX12_match_5 (by decide) ?_
  refine lv_aload_n hx hb dX12_match_6 rfl (lv_at hl 0 rfl) ?_
  refine va_get (ci := 9) (v := .ref (qa 30)) (C := RX12) (T := TX12) (N := 16) hx hb hts inX12 hown hK hP 0 rfl rfl 11 (by decide) lf19 (fun _ h9 => h9) rfl dX12_match_7 ?_
  refine va_get (ci := 2) (v := .int 0) (C := RX3) (T := TX3) (N := 12) hx hb hts inX3 hown hK hP 1 rfl rfl 7 (by decide) lf151 (fun _ h9 => h9) rfl dX12_match_10 ?_
  refine lv_iadd hx hb dX12_match_13 ?_
  refine p_topI (v := 3) (by decide) ?_
  refine lv_icmp_lt (tgt := 20) hx hb dX12_match_14 (by decide) (fun h9 => absurd h9 (show ¬ w < 3 by revert hw; simp only [Int32.lt_iff_toInt_lt, Int32.le_iff_toInt_le, ← Int32.toInt_inj, (by decide : (2 : Int32).toInt = 2), (by decide : (3 : Int32).toInt = 3)]; omega)) (fun cx2 => ?_)
  refine lv_bipush (v := (-2)) hx hb dX12_match_17 (by decide) ?_
  exact hret _ _ _ _ _ _ (-2) () (by decide) (by decide) dX12_match_19 rfl rfl (hP.sub [] rfl) (hD.sub [] (by decide) rfl) hS
