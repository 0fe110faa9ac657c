theorem p_selPriv {args : Array Value} {s : State} {C : String} {x z y : MethodName} (hy : y.cls ≠ "java/lang/invoke/MethodHandle" ∧ y.cls ≠ "java/lang/invoke/VarHandle") (hzy : z.cls = y.cls) (h : (Cond.selects C x z).before args s = true) (hpriv : (Cond.privateMethod y).before args s = true) (hinst : (Cond.instanceMethod y).before args s = true) : (Cond.selects C y y).before args s = true := by
  obtain ⟨mk, methM, hnamed, hmethM, -, -⟩ := Cond.instanceMethod_spec hinst
  have hfound : s.methodFound? y.cls y.name y.desc = some mk := State.methodFound?_of_named hnamed hy
  have hsel : ∀ c, selectMethod {} s.vm c mk = .method mk := fun c => selectMethod_private hmethM (Cond.privateMethod_at hpriv mk methM hnamed hmethM)
  have hcl := findClass_of_methodNamed hnamed
  simp only [Cond.before, Cond.holds, Cond.value] at h
  cases hC : s.vm.findClass C with
  | none => simp [hC] at h
  | some c =>
    cases hx : s.methodFound? x.cls x.name x.desc with
    | none => simp [hC, hx] at h
    | some r =>
      cases hz : s.methodNamed? z with
      | none => simp [hC, hx, hz] at h
      | some mz =>
        have hmz : mz.cls = mk.cls := Option.some.inj ((findClass_of_methodNamed hz).symm.trans (by rw [hzy]; exact hcl))
        have hni : (s.vm.classes[mk.cls]?).any (!·.isInterface) = true := by
          rw [← hmz]
          cases hs : selectMethod {} s.vm c r with
          | method m' =>
            simp only [hC, hx, hz, hs] at h
            simp at h
            simpa using h.2
          | _ => simp [hC, hx, hz, hs] at h
        simp only [Cond.before, Cond.holds, Cond.value, hC, hfound, hnamed, hsel]
        simp at hni ⊢
        exact hni
theorem p_arrP {args : Array Value} {s : State} {ty : FieldType} (hp : ∀ C, ty ≠ .object C) (h : (Cond.arrayClass ty).before args s = true) : ∃ cA, ArrOfT s cA ty ∧ va_RA s cA ty := by
  obtain ⟨cA, kA, comp, h1, h2, h3⟩ := Cond.arrayClass_spec h
  refine ⟨cA, fun n z => ⟨fun k h => (by cases h), kA, h2, comp, h3⟩, ?_⟩
  cases ty with
  | object C => exact absurd rfl (hp C)
  | _ => exact h1
theorem p_arrO {s : State} {C : String} (h : va_AO C s) : ∃ cA, ArrOfT s cA (.object C) ∧ va_RA s cA (.object C) := by
  obtain ⟨comp, cA, kA, h1, -, h2, h3, h4⟩ := Cond.arrayOver_spec (va_AO.use (A := #[]) h)
  exact ⟨cA, fun n z => ⟨fun k h => (by cases h), kA, h2, comp, h3⟩, kA, comp, h2, h3, h1, h4⟩
theorem p_fc {T : List Cond} {a : Cond} {l : List Cond} (h : a ∈ T) (t : ∀ w ∈ l, w ∈ T) : ∀ w ∈ a :: l, w ∈ T := fun w hw => (List.mem_cons.mp hw).elim (fun e => by rw [e]; exact h) (t w)
theorem p_fn {T : List Cond} : ∀ w ∈ ([] : List Cond), w ∈ T := fun _ h => nomatch h
theorem p_fa {T a b : List Cond} (ha : ∀ w ∈ a, w ∈ T) (hb : ∀ w ∈ b, w ∈ T) : ∀ w ∈ a ++ b, w ∈ T := fun w h => (List.mem_append.mp h).elim (ha w) (hb w)
theorem gs_0 : (.fieldLink RX12 93 "RiverVows" "undoCount" "I" : Cond) ∈ gT := gT_of (List.mem_of_getElem? (i := 593) (by decide +kernel)) rfl
theorem gs_1 : (.fieldLink RX12 90 "RiverVows" "undoNext" "I" : Cond) ∈ gT := gT_of (List.mem_of_getElem? (i := 592) (by decide +kernel)) rfl
theorem gs_2 : (.fieldLink RX12 86 "RiverVows" "lineCount" "I" : Cond) ∈ gT := gT_of (List.mem_of_getElem? (i := 591) (by decide +kernel)) rfl
theorem gs_3 : (.fieldLink RX12 83 "RiverVows" "price" "[I" : Cond) ∈ gT := gT_of (List.mem_of_getElem? (i := 588) (by decide +kernel)) rfl
theorem gs_4 : (.fieldLink RX12 80 "RiverVows" "growth" "[I" : Cond) ∈ gT := gT_of (List.mem_of_getElem? (i := 587) (by decide +kernel)) rfl
theorem gs_5 : (.fieldLink RX12 76 "RiverVows" "findings" "LRiverVows$Findings;" : Cond) ∈ gT := gT_of (List.mem_of_getElem? (i := 586) (by decide +kernel)) rfl
theorem gs_6 : (.methodLink RX12 73 yX1_init : Cond) ∈ gT := gT_of (List.mem_of_getElem? (i := 559) (by decide +kernel)) rfl
theorem gs_7 : (.instanceMethod yX1_init : Cond) ∈ gT := gT_of (List.mem_of_getElem? (i := 560) (by decide +kernel)) rfl
theorem gs_8 : (.fieldLink RX1 15 "RiverVows$Findings" "now" "LRiverVows$Standing;" : Cond) ∈ gT := gT_of (List.mem_of_getElem? (i := 565) (by decide +kernel)) rfl
theorem gs_9 : (.fieldLink RX1 9 "RiverVows$Findings" "tally" "[I" : Cond) ∈ gT := gT_of (List.mem_of_getElem? (i := 566) (by decide +kernel)) rfl
theorem gs_10 : (.methodLink RX1 3 yX10_init : Cond) ∈ gT := gT_of (List.mem_of_getElem? (i := 562) (by decide +kernel)) rfl
theorem gs_11 : (.code yX1_init cX1_init 3 none : Cond) ∈ gT := gT_of (List.mem_of_getElem? (i := 561) (by decide +kernel)) rfl
theorem gs_12 : (.initialized RX1 : Cond) ∈ gT := gT_of (List.mem_of_getElem? (i := 153) (by decide +kernel)) rfl
theorem gs_13 : (.instantiable RX1 7 : Cond) ∈ gT := gT_of (List.mem_of_getElem? (i := 558) (by decide +kernel)) rfl
theorem gs_14 : (.classLink RX12 71 RX1 : Cond) ∈ gT := gT_of (List.mem_of_getElem? (i := 557) (by decide +kernel)) rfl
theorem gs_15 : (.fieldLink RX12 67 "RiverVows" "matches" "LRiverVows$Matches;" : Cond) ∈ gT := gT_of (List.mem_of_getElem? (i := 585) (by decide +kernel)) rfl
theorem gs_16 : (.methodLink RX12 64 yX4_init : Cond) ∈ gT := gT_of (List.mem_of_getElem? (i := 509) (by decide +kernel)) rfl
theorem gs_17 : (.instanceMethod yX4_init : Cond) ∈ gT := gT_of (List.mem_of_getElem? (i := 510) (by decide +kernel)) rfl
theorem gs_18 : (.methodLink RX4 3 yX10_init : Cond) ∈ gT := gT_of (List.mem_of_getElem? (i := 512) (by decide +kernel)) rfl
theorem gs_19 : (.instanceMethod yX10_init : Cond) ∈ gT := gT_of (List.mem_of_getElem? (i := 513) (by decide +kernel)) rfl
theorem gs_20 : (.initialized RX10 : Cond) ∈ gT := gT_of (List.mem_of_getElem? (i := 151) (by decide +kernel)) rfl
theorem gs_21 : (.fieldLink RX10 15 "RiverVows$Ways" "net" "LRiverVows$Net;" : Cond) ∈ gT := gT_of (List.mem_of_getElem? (i := 520) (by decide +kernel)) rfl
theorem gs_22 : (.fieldLink RX10 9 "RiverVows$Ways" "husband" "[I" : Cond) ∈ gT := gT_of (List.mem_of_getElem? (i := 525) (by decide +kernel)) rfl
theorem gs_23 : (.methodLink RX10 3 objectInit : Cond) ∈ gT := gT_of (List.mem_of_getElem? (i := 515) (by decide +kernel)) rfl
theorem gs_24 : (.code yX10_init cX10_init 2 none : Cond) ∈ gT := gT_of (List.mem_of_getElem? (i := 514) (by decide +kernel)) rfl
theorem gs_25 : (.code yX4_init cX4_init 2 none : Cond) ∈ gT := gT_of (List.mem_of_getElem? (i := 511) (by decide +kernel)) rfl
theorem gs_26 : (.initialized RX4 : Cond) ∈ gT := gT_of (List.mem_of_getElem? (i := 152) (by decide +kernel)) rfl
theorem gs_27 : (.instantiable RX4 6 : Cond) ∈ gT := gT_of (List.mem_of_getElem? (i := 508) (by decide +kernel)) rfl
theorem gs_28 : (.classLink RX12 62 RX4 : Cond) ∈ gT := gT_of (List.mem_of_getElem? (i := 507) (by decide +kernel)) rfl
theorem gs_29 : (.fieldLink RX12 58 "RiverVows" "net" "LRiverVows$Net;" : Cond) ∈ gT := gT_of (List.mem_of_getElem? (i := 584) (by decide +kernel)) rfl
theorem gs_30 : (.methodLink RX12 55 yX5_init : Cond) ∈ gT := gT_of (List.mem_of_getElem? (i := 487) (by decide +kernel)) rfl
theorem gs_31 : (.instanceMethod yX5_init : Cond) ∈ gT := gT_of (List.mem_of_getElem? (i := 488) (by decide +kernel)) rfl
theorem gs_32 : (.fieldLink RX5 18 "RiverVows$Net" "land" "LRiverVows$Land;" : Cond) ∈ gT := gT_of (List.mem_of_getElem? (i := 497) (by decide +kernel)) rfl
theorem gs_33 : (.fieldLink RX5 15 "RiverVows$Net" "whole" "[I" : Cond) ∈ gT := gT_of (List.mem_of_getElem? (i := 494) (by decide +kernel)) rfl
theorem gs_34 : (.fieldLink RX5 9 "RiverVows$Net" "husband" "[I" : Cond) ∈ gT := gT_of (List.mem_of_getElem? (i := 491) (by decide +kernel)) rfl
theorem gs_35 : (.methodLink RX5 3 objectInit : Cond) ∈ gT := gT_of (List.mem_of_getElem? (i := 490) (by decide +kernel)) rfl
theorem gs_36 : (.code yX5_init cX5_init 2 none : Cond) ∈ gT := gT_of (List.mem_of_getElem? (i := 489) (by decide +kernel)) rfl
theorem gs_37 : (.initialized RX5 : Cond) ∈ gT := gT_of (List.mem_of_getElem? (i := 150) (by decide +kernel)) rfl
theorem gs_38 : (.instantiable RX5 3 : Cond) ∈ gT := gT_of (List.mem_of_getElem? (i := 486) (by decide +kernel)) rfl
theorem gs_39 : (.classLink RX12 53 RX5 : Cond) ∈ gT := gT_of (List.mem_of_getElem? (i := 485) (by decide +kernel)) rfl
theorem gs_40 : (.fieldLink RX12 49 "RiverVows" "lines" "[I" : Cond) ∈ gT := gT_of (List.mem_of_getElem? (i := 583) (by decide +kernel)) rfl
theorem gs_41 : (.fieldLink RX12 46 "RiverVows" "marks" "[LRiverVows$Standing;" : Cond) ∈ gT := gT_of (List.mem_of_getElem? (i := 582) (by decide +kernel)) rfl
theorem gs_42 : (.fieldLink RX12 42 "RiverVows" "undoable" "[LRiverVows$Standing;" : Cond) ∈ gT := gT_of (List.mem_of_getElem? (i := 581) (by decide +kernel)) rfl
theorem gs_43 : (.fieldLink RX12 38 "RiverVows" "now" "LRiverVows$Standing;" : Cond) ∈ gT := gT_of (List.mem_of_getElem? (i := 580) (by decide +kernel)) rfl
theorem gs_44 : (.methodLink RX12 37 yX9_init : Cond) ∈ gT := gT_of (List.mem_of_getElem? (i := 432) (by decide +kernel)) rfl
theorem gs_45 : (.instanceMethod yX9_init : Cond) ∈ gT := gT_of (List.mem_of_getElem? (i := 433) (by decide +kernel)) rfl
theorem gs_46 : (.fieldLink RX9 33 "RiverVows$Standing" "heirs" "I" : Cond) ∈ gT := gT_of (List.mem_of_getElem? (i := 455) (by decide +kernel)) rfl
theorem gs_47 : (.fieldLink RX9 30 "RiverVows$Standing" "toldFlow" "[I" : Cond) ∈ gT := gT_of (List.mem_of_getElem? (i := 450) (by decide +kernel)) rfl
theorem gs_48 : (.fieldLink RX9 27 "RiverVows$Standing" "toldSeason" "[I" : Cond) ∈ gT := gT_of (List.mem_of_getElem? (i := 447) (by decide +kernel)) rfl
theorem gs_49 : (.fieldLink RX9 24 "RiverVows$Standing" "toldRiver" "[I" : Cond) ∈ gT := gT_of (List.mem_of_getElem? (i := 444) (by decide +kernel)) rfl
theorem gs_50 : (.fieldLink RX9 21 "RiverVows$Standing" "wants" "[I" : Cond) ∈ gT := gT_of (List.mem_of_getElem? (i := 442) (by decide +kernel)) rfl
theorem gs_51 : (.fieldLink RX9 18 "RiverVows$Standing" "silt" "[I" : Cond) ∈ gT := gT_of (List.mem_of_getElem? (i := 440) (by decide +kernel)) rfl
theorem gs_52 : (.fieldLink RX9 15 "RiverVows$Standing" "owed" "[I" : Cond) ∈ gT := gT_of (List.mem_of_getElem? (i := 438) (by decide +kernel)) rfl
theorem gs_53 : (.fieldLink RX9 9 "RiverVows$Standing" "husband" "[I" : Cond) ∈ gT := gT_of (List.mem_of_getElem? (i := 436) (by decide +kernel)) rfl
theorem gs_54 : (.methodLink RX9 3 objectInit : Cond) ∈ gT := gT_of (List.mem_of_getElem? (i := 435) (by decide +kernel)) rfl
theorem gs_55 : (.code yX9_init cX9_init 2 none : Cond) ∈ gT := gT_of (List.mem_of_getElem? (i := 434) (by decide +kernel)) rfl
theorem gs_56 : (.initialized RX9 : Cond) ∈ gT := gT_of (List.mem_of_getElem? (i := 149) (by decide +kernel)) rfl
theorem gs_57 : (.instantiable RX9 11 : Cond) ∈ gT := gT_of (List.mem_of_getElem? (i := 431) (by decide +kernel)) rfl
theorem gs_58 : (.classLink RX12 35 RX9 : Cond) ∈ gT := gT_of (List.mem_of_getElem? (i := 430) (by decide +kernel)) rfl
theorem gs_59 : (.fieldLink RX12 31 "RiverVows" "reader" "LRiverVows$Reader;" : Cond) ∈ gT := gT_of (List.mem_of_getElem? (i := 579) (by decide +kernel)) rfl
theorem gs_60 : (.methodLink RX12 28 yX6_init : Cond) ∈ gT := gT_of (List.mem_of_getElem? (i := 388) (by decide +kernel)) rfl
theorem gs_61 : (.instanceMethod yX6_init : Cond) ∈ gT := gT_of (List.mem_of_getElem? (i := 389) (by decide +kernel)) rfl
theorem gs_62 : (.fieldLink RX6 32 "RiverVows$Reader" "formula" "LRiverVows$Formula;" : Cond) ∈ gT := gT_of (List.mem_of_getElem? (i := 402) (by decide +kernel)) rfl
theorem gs_63 : (.fieldLink RX6 26 "RiverVows$Land" "dowry" "LRiverVows$Formula;" : Cond) ∈ gT := gT_of (List.mem_of_getElem? (i := 333) (by decide +kernel)) rfl
theorem gs_64 : (.fieldLink RX6 22 "RiverVows$Reader" "land" "LRiverVows$Land;" : Cond) ∈ gT := gT_of (List.mem_of_getElem? (i := 401) (by decide +kernel)) rfl
theorem gs_65 : (.fieldLink RX6 18 "RiverVows$Reader" "scan" "LRiverVows$Scanner;" : Cond) ∈ gT := gT_of (List.mem_of_getElem? (i := 400) (by decide +kernel)) rfl
theorem gs_66 : (.fieldLink RX6 15 "RiverVows$Reader" "wants" "[I" : Cond) ∈ gT := gT_of (List.mem_of_getElem? (i := 394) (by decide +kernel)) rfl
theorem gs_67 : (.fieldLink RX6 9 "RiverVows$Reader" "lines" "[I" : Cond) ∈ gT := gT_of (List.mem_of_getElem? (i := 392) (by decide +kernel)) rfl
theorem gs_68 : (.methodLink RX6 3 objectInit : Cond) ∈ gT := gT_of (List.mem_of_getElem? (i := 391) (by decide +kernel)) rfl
theorem gs_69 : (.code yX6_init cX6_init 3 none : Cond) ∈ gT := gT_of (List.mem_of_getElem? (i := 390) (by decide +kernel)) rfl
theorem gs_70 : (.initialized RX6 : Cond) ∈ gT := gT_of (List.mem_of_getElem? (i := 148) (by decide +kernel)) rfl
theorem gs_71 : (.instantiable RX6 11 : Cond) ∈ gT := gT_of (List.mem_of_getElem? (i := 387) (by decide +kernel)) rfl
theorem gs_72 : (.classLink RX12 26 RX6 : Cond) ∈ gT := gT_of (List.mem_of_getElem? (i := 386) (by decide +kernel)) rfl
theorem gs_73 : (.fieldLink RX12 23 "RiverVows" "draft" "LRiverVows$Land;" : Cond) ∈ gT := gT_of (List.mem_of_getElem? (i := 590) (by decide +kernel)) rfl
theorem gs_74 : (.fieldLink RX12 19 "RiverVows" "country" "LRiverVows$Land;" : Cond) ∈ gT := gT_of (List.mem_of_getElem? (i := 589) (by decide +kernel)) rfl
theorem gs_75 : (.methodLink RX12 18 yX3_init : Cond) ∈ gT := gT_of (List.mem_of_getElem? (i := 232) (by decide +kernel)) rfl
theorem gs_76 : (.instanceMethod yX3_init : Cond) ∈ gT := gT_of (List.mem_of_getElem? (i := 233) (by decide +kernel)) rfl
theorem gs_77 : (.selects RX2 yX2_add yX2_add : Cond) ∈ gT := gT_of (List.mem_of_getElem? (i := 323) (by decide +kernel)) rfl
theorem gs_78 : (.instanceMethod yX2_add : Cond) ∈ gT := gT_of (List.mem_of_getElem? (i := 322) (by decide +kernel)) rfl
theorem gs_79 : (.methodLink RX3 41 yX2_add : Cond) ∈ gT := gT_of (List.mem_of_getElem? (i := 321) (by decide +kernel)) rfl
theorem gs_80 : (.fieldLink RX2 18 "RiverVows$Formula" "length" "I" : Cond) ∈ gT := gT_of (List.mem_of_getElem? (i := 246) (by decide +kernel)) rfl
theorem gs_81 : (.code yX2_add cX2_add 2 none : Cond) ∈ gT := gT_of (List.mem_of_getElem? (i := 324) (by decide +kernel)) rfl
theorem gs_82 : (.instanceMethod yX7_init : Cond) ∈ gT := gT_of (List.mem_of_getElem? (i := 256) (by decide +kernel)) rfl
theorem gs_83 : (.fieldLink RX7 9 "RiverVows$River" "water" "[I" : Cond) ∈ gT := gT_of (List.mem_of_getElem? (i := 259) (by decide +kernel)) rfl
theorem gs_84 : (.methodLink RX7 3 objectInit : Cond) ∈ gT := gT_of (List.mem_of_getElem? (i := 258) (by decide +kernel)) rfl
theorem gs_85 : (.code yX7_init cX7_init 1 none : Cond) ∈ gT := gT_of (List.mem_of_getElem? (i := 257) (by decide +kernel)) rfl
theorem gs_86 : (.initialized RX7 : Cond) ∈ gT := gT_of (List.mem_of_getElem? (i := 147) (by decide +kernel)) rfl
theorem gs_87 : (.instantiable RX7 12 : Cond) ∈ gT := gT_of (List.mem_of_getElem? (i := 254) (by decide +kernel)) rfl
theorem gs_88 : (.fieldLink RX3 37 "RiverVows$Land" "sums" "[I" : Cond) ∈ gT := gT_of (List.mem_of_getElem? (i := 342) (by decide +kernel)) rfl
theorem gs_89 : (.fieldLink RX3 34 "RiverVows$Land" "fits" "[I" : Cond) ∈ gT := gT_of (List.mem_of_getElem? (i := 339) (by decide +kernel)) rfl
theorem gs_90 : (.fieldLink RX3 31 "RiverVows$Land" "silt" "LRiverVows$Formula;" : Cond) ∈ gT := gT_of (List.mem_of_getElem? (i := 336) (by decide +kernel)) rfl
theorem gs_91 : (.fieldLink RX3 27 "RiverVows$Land" "dowry" "LRiverVows$Formula;" : Cond) ∈ gT := gT_of (List.mem_of_getElem? (i := 334) (by decide +kernel)) rfl
theorem gs_92 : (.instanceMethod yX2_init : Cond) ∈ gT := gT_of (List.mem_of_getElem? (i := 241) (by decide +kernel)) rfl
theorem gs_93 : (.fieldLink RX2 15 "RiverVows$Formula" "stack" "[I" : Cond) ∈ gT := gT_of (List.mem_of_getElem? (i := 245) (by decide +kernel)) rfl
theorem gs_94 : (.fieldLink RX2 9 "RiverVows$Formula" "steps" "[I" : Cond) ∈ gT := gT_of (List.mem_of_getElem? (i := 244) (by decide +kernel)) rfl
theorem gs_95 : (.methodLink RX2 3 objectInit : Cond) ∈ gT := gT_of (List.mem_of_getElem? (i := 243) (by decide +kernel)) rfl
theorem gs_96 : (.code yX2_init cX2_init 1 none : Cond) ∈ gT := gT_of (List.mem_of_getElem? (i := 242) (by decide +kernel)) rfl
theorem gs_97 : (.initialized RX2 : Cond) ∈ gT := gT_of (List.mem_of_getElem? (i := 146) (by decide +kernel)) rfl
theorem gs_98 : (.instantiable RX2 3 : Cond) ∈ gT := gT_of (List.mem_of_getElem? (i := 239) (by decide +kernel)) rfl
theorem gs_99 : (.classLink RX3 24 RX2 : Cond) ∈ gT := gT_of (List.mem_of_getElem? (i := 238) (by decide +kernel)) rfl
theorem gs_100 : (.fieldLink RX3 21 "RiverVows$Land" "rangeThick" "[I" : Cond) ∈ gT := gT_of (List.mem_of_getElem? (i := 331) (by decide +kernel)) rfl
theorem gs_101 : (.fieldLink RX3 17 "RiverVows$Land" "rangeAt" "[I" : Cond) ∈ gT := gT_of (List.mem_of_getElem? (i := 329) (by decide +kernel)) rfl
theorem gs_102 : (.fieldLink RX3 13 "RiverVows$Land" "row" "[LRiverVows$River;" : Cond) ∈ gT := gT_of (List.mem_of_getElem? (i := 325) (by decide +kernel)) rfl
theorem gs_103 : (.classLink RX3 11 RX7 : Cond) ∈ gT := gT_of (List.mem_of_getElem? (i := 236) (by decide +kernel)) rfl
theorem gs_104 : (.methodLink RX3 5 objectInit : Cond) ∈ gT := gT_of (List.mem_of_getElem? (i := 235) (by decide +kernel)) rfl
theorem gs_105 : (.code yX3_init cX3_init 2 none : Cond) ∈ gT := gT_of (List.mem_of_getElem? (i := 234) (by decide +kernel)) rfl
theorem gs_106 : (.initialized RX3 : Cond) ∈ gT := gT_of (List.mem_of_getElem? (i := 145) (by decide +kernel)) rfl
theorem gs_107 : (.instantiable RX3 12 : Cond) ∈ gT := gT_of (List.mem_of_getElem? (i := 231) (by decide +kernel)) rfl
theorem gs_108 : (.classLink RX12 16 RX3 : Cond) ∈ gT := gT_of (List.mem_of_getElem? (i := 230) (by decide +kernel)) rfl
theorem gs_109 : (.fieldLink RX12 10 "RiverVows" "tape" "LRiverVows$Scanner;" : Cond) ∈ gT := gT_of (List.mem_of_getElem? (i := 578) (by decide +kernel)) rfl
theorem gs_110 : (.instanceMethod yX8_init : Cond) ∈ gT := gT_of (List.mem_of_getElem? (i := 181) (by decide +kernel)) rfl
theorem gs_111 : (.fieldLink RX8 22 "RiverVows$Scanner" "keys" "[J" : Cond) ∈ gT := gT_of (List.mem_of_getElem? (i := 187) (by decide +kernel)) rfl
theorem gs_112 : (.arrayClass .long : Cond) ∈ gT := gT_of (List.mem_of_getElem? (i := 229) (by decide +kernel)) rfl
theorem gs_113 : (.fieldLink RX8 19 "RiverVows$Scanner" "starts" "[I" : Cond) ∈ gT := gT_of (List.mem_of_getElem? (i := 186) (by decide +kernel)) rfl
theorem gs_114 : (.fieldLink RX8 15 "RiverVows$Scanner" "kinds" "[I" : Cond) ∈ gT := gT_of (List.mem_of_getElem? (i := 185) (by decide +kernel)) rfl
theorem gs_115 : (.arrayClass .int : Cond) ∈ gT := gT_of (List.mem_of_getElem? (i := 228) (by decide +kernel)) rfl
theorem gs_116 : (.fieldLink RX8 9 "RiverVows$Scanner" "signs" "[C" : Cond) ∈ gT := gT_of (List.mem_of_getElem? (i := 184) (by decide +kernel)) rfl
theorem gs_117 : (.arrayClass .char : Cond) ∈ gT := gT_of (List.mem_of_getElem? (i := 227) (by decide +kernel)) rfl
theorem gs_118 : (.methodLink RX8 3 objectInit : Cond) ∈ gT := gT_of (List.mem_of_getElem? (i := 183) (by decide +kernel)) rfl
theorem gs_119 : (.code yX8_init cX8_init 1 none : Cond) ∈ gT := gT_of (List.mem_of_getElem? (i := 182) (by decide +kernel)) rfl
theorem gs_120 : (.initialized RX8 : Cond) ∈ gT := gT_of (List.mem_of_getElem? (i := 144) (by decide +kernel)) rfl
theorem gs_121 : (.instantiable RX8 12 : Cond) ∈ gT := gT_of (List.mem_of_getElem? (i := 179) (by decide +kernel)) rfl
theorem gs_122 : (.classLink RX12 7 RX8 : Cond) ∈ gT := gT_of (List.mem_of_getElem? (i := 178) (by decide +kernel)) rfl
theorem gs_123 : (.code objectInit ⟨#[0xb1]⟩ 1 none : Cond) ∈ gT := gT_of (List.mem_of_getElem? (i := 177) (by decide +kernel)) rfl
theorem gs_124 : (.instanceMethod objectInit : Cond) ∈ gT := gT_of (List.mem_of_getElem? (i := 176) (by decide +kernel)) rfl
theorem gs_125 : (.methodLink RX12 1 objectInit : Cond) ∈ gT := gT_of (List.mem_of_getElem? (i := 175) (by decide +kernel)) rfl
theorem gs_126 : (.code yX12_init cX12_init 2 none : Cond) ∈ gT := gT_of (List.mem_of_getElem? (i := 174) (by decide +kernel)) rfl
theorem gs_127 : (.code yX13_init cX13_init 1 none : Cond) ∈ gT := gT_of (List.mem_of_getElem? (i := 1527) (by decide +kernel)) rfl
theorem in_RiverVows_init : ∀ w ∈ pw_RiverVows_init, w ∈ gTC := (p_fc (gTC_in gs_126) (p_fa (p_fa (p_fa (p_fa (p_fa (p_fa (p_fa (p_fa (p_fa (p_fa (p_fc (gTC_in gs_125) (p_fc (gTC_in gs_124) (p_fc (gTC_in gs_123) (p_fc (gTC_in gs_122) (p_fc (gTC_in gs_121) (p_fc (gTC_in gs_120) (p_fc (gTC_in gs_119) (p_fc (gTC_in gs_118) (p_fc (gTC_in gs_117) (p_fc (gTC_in gs_116) (p_fc (gTC_in gs_115) (p_fc (gTC_in gs_114) (p_fc (gTC_in gs_113) (p_fc (gTC_in gs_112) (p_fc (gTC_in gs_111) (p_fc (gTC_in gs_110) (p_fc (gTC_in gs_109) (p_fc (gTC_in gs_108) (p_fc (gTC_in gs_107) (p_fc (gTC_in gs_106) (p_fc (gTC_in gs_105) (p_fc (gTC_in gs_104) (p_fc (gTC_in gs_103) (p_fc (gTC_in gs_102) (p_fc (gTC_in gs_101) (p_fc (gTC_in gs_100) (p_fc (gTC_in gs_99) (p_fc (gTC_in gs_98) (p_fc (gTC_in gs_97) (p_fc (gTC_in gs_96) (p_fc (gTC_in gs_95) (p_fc (gTC_in gs_94) (p_fc (gTC_in gs_93) (p_fc (gTC_in gs_92) (p_fc (gTC_in gs_91) (p_fc (gTC_in gs_90) (p_fc (gTC_in gs_89) (p_fc (gTC_in gs_88) (p_fc (gTC_in gs_87) (p_fc (gTC_in gs_86) (p_fc (gTC_in gs_85) (p_fc (gTC_in gs_84) (p_fc (gTC_in gs_83) (p_fc (gTC_in gs_82) (p_fc (gTC_in gs_81) (p_fc (gTC_in gs_80) (p_fc (gTC_in gs_79) (p_fc (gTC_in gs_78) (p_fc (gTC_in gs_77) (p_fc (gTC_in gs_76) (p_fc (gTC_in gs_75) (p_fc (gTC_in gs_74) (p_fc (gTC_in gs_73) (p_fc (gTC_in gs_72) (p_fc (gTC_in gs_71) (p_fc (gTC_in gs_70) (p_fc (gTC_in gs_69) (p_fc (gTC_in gs_68) (p_fc (gTC_in gs_67) (p_fc (gTC_in gs_66) (p_fc (gTC_in gs_65) (p_fc (gTC_in gs_64) (p_fc (gTC_in gs_63) (p_fc (gTC_in gs_62) (p_fc (gTC_in gs_61) (p_fc (gTC_in gs_60) (p_fc (gTC_in gs_59) (p_fc (gTC_in gs_58) (p_fc (gTC_in gs_57) (p_fc (gTC_in gs_56) (p_fc (gTC_in gs_55) (p_fc (gTC_in gs_54) (p_fc (gTC_in gs_53) (p_fc (gTC_in gs_52) (p_fc (gTC_in gs_51) (p_fc (gTC_in gs_50) (p_fc (gTC_in gs_49) (p_fc (gTC_in gs_48) (p_fc (gTC_in gs_47) (p_fc (gTC_in gs_46) (p_fc (gTC_in gs_45) (p_fc (gTC_in gs_44) (p_fc (gTC_in gs_43) (p_fc (gTC_in gs_42) (p_fc (gTC_in gs_41) (p_fc (gTC_in gs_40) (p_fc (gTC_in gs_39) (p_fc (gTC_in gs_38) (p_fc (gTC_in gs_37) (p_fc (gTC_in gs_36) (p_fc (gTC_in gs_35) (p_fc (gTC_in gs_34) (p_fc (gTC_in gs_33) (p_fc (gTC_in gs_32) (p_fc (gTC_in gs_31) (p_fc (gTC_in gs_30) (p_fc (gTC_in gs_29) (p_fc (gTC_in gs_28) (p_fc (gTC_in gs_27) (p_fc (gTC_in gs_26) (p_fc (gTC_in gs_25) (p_fc (gTC_in gs_24) (p_fc (gTC_in gs_23) (p_fc (gTC_in gs_22) (p_fc (gTC_in gs_21) (p_fc (gTC_in gs_20) (p_fc (gTC_in gs_19) (p_fc (gTC_in gs_18) (p_fc (gTC_in gs_17) (p_fc (gTC_in gs_16) (p_fc (gTC_in gs_15) (p_fc (gTC_in gs_14) (p_fc (gTC_in gs_13) (p_fc (gTC_in gs_12) (p_fc (gTC_in gs_11) (p_fc (gTC_in gs_10) (p_fc (gTC_in gs_9) (p_fc (gTC_in gs_8) (p_fc (gTC_in gs_7) (p_fc (gTC_in gs_6) (p_fc (gTC_in gs_5) (p_fc (gTC_in gs_4) (p_fc (gTC_in gs_3) (p_fc (gTC_in gs_2) (p_fc (gTC_in gs_1) (p_fc (gTC_in gs_0) p_fn)))))))))))))))))))))))))))))))))))))))))))))))))))))))))))))))))))))))))))))))))))))))))))))))))))))))))))))))))))))))))))))) gl_X8) gl_X12) gl_X3) gl_X2) gl_X7) gl_X6) gl_X9) gl_X5) gl_X4) gl_X1))
theorem good_RiverVows_init : GoodIn gTC pw_RiverVows_init := fun w hw => ⟨in_RiverVows_init w hw, good_of_word (gTC_ok w (in_RiverVows_init w hw))⟩
theorem good_Model_init : GoodIn gTC pwM_init := fun w hw => by
  have h : w ∈ gTC := gTC_in ((List.mem_cons.mp hw).elim (fun e => by rw [e]; exact gs_127) id)
  exact ⟨h, good_of_word (gTC_ok w h)⟩
theorem mi_pre {s : State} {H : Heap} {locs : List Loc} {D : va_G} {k : Nat → ClassId} {z : Nat → Nat} {A : Nat → Prop} {w1 w2 : va_W} {av : List Value} (hK : va_K D vwCl (pT k) s) (hN : fN z A s s.heap) (hP : va_P D vwCl (w1 ++ w2) H) (hD : va_D A (w1 ++ w2)) (hS : va_S A s.heap H locs) (hA : ∀ q : Nat, s.heap.size ≤ q → A q) : PreS s H (va_Pc av (f_Pre D k z w1 H.size)) av :=
  ⟨f_Blind, fun U hU hW => ⟨rfl, by rw [hU], by rw [hU]; exact f_P1 hP, va_K.moved hW.alike hK, by rw [hU]; exact hN.to hS hW (f_in1 hA hD hS), (f_D1 hD).weaken (fun _ _ _ _ => trivial)⟩⟩
theorem gl_X13C : ∀ w ∈ u_ws RX13 TX13 42, w ∈ gTC := fun w h => gTC_in (gl_X13 w h)
