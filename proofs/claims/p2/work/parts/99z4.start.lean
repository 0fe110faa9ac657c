theorem p_selPriv {args : Array Value} {s : State} {C : String} {x z y : MethodName} (hy : y.cls ≠ "java/lang/invoke/MethodHandle" ∧ y.cls ≠ "java/lang/invoke/VarHandle") (hzy : z.cls = y.cls) (h : (Cond.selects C x z).before args s = true) (hpriv : (Cond.privateMethod y).before args s = true) (hinst : (Cond.instanceMethod y).before args s = true) : (Cond.selects C y y).before args s = true := by
  obtain ⟨mk, methM, hnamed, hmethM, -, -⟩ := Cond.instanceMethod_spec hinst
  have hfound : s.methodFound? y.cls y.name y.desc = some mk := State.methodFound?_of_named hnamed hy
  have hsel : ∀ c, selectMethod {} s.vm c mk = .method mk := fun c => selectMethod_private hmethM (Cond.privateMethod_at hpriv mk methM hnamed hmethM)
  have hcl := findClass_of_methodNamed hnamed
  simp only [Cond.before, Cond.holds, Cond.value] at h
  cases hC : s.vm.findClass C with
  | none => simp [hC] at h
  | some c =>
    cases hx : s.methodFound? x.cls x.name x.desc with
    | none => simp [hC, hx] at h
    | some r =>
      cases hz : s.methodNamed? z with
      | none => simp [hC, hx, hz] at h
      | some mz =>
        have hmz : mz.cls = mk.cls := Option.some.inj ((findClass_of_methodNamed hz).symm.trans (by rw [hzy]; exact hcl))
        have hni : (s.vm.classes[mk.cls]?).any (!·.isInterface) = true := by
          rw [← hmz]
          cases hs : selectMethod {} s.vm c r with
          | method m' =>
            simp only [hC, hx, hz, hs] at h
            simp at h
            simpa using h.2
          | _ => simp [hC, hx, hz, hs] at h
        simp only [Cond.before, Cond.holds, Cond.value, hC, hfound, hnamed, hsel]
        simp at hni ⊢
        exact hni
theorem p_arrP {args : Array Value} {s : State} {ty : FieldType} (hp : ∀ C, ty ≠ .object C) (h : (Cond.arrayClass ty).before args s = true) : ∃ cA, ArrOfT s cA ty ∧ va_RA s cA ty := by
  obtain ⟨cA, kA, comp, h1, h2, h3⟩ := Cond.arrayClass_spec h
  refine ⟨cA, fun n z => ⟨fun k h => (by cases h), kA, h2, comp, h3⟩, ?_⟩
  cases ty with
  | object C => exact absurd rfl (hp C)
  | _ => exact h1
theorem p_arrO {s : State} {C : String} (h : va_AO C s) : ∃ cA, ArrOfT s cA (.object C) ∧ va_RA s cA (.object C) := by
  obtain ⟨comp, cA, kA, h1, -, h2, h3, h4⟩ := Cond.arrayOver_spec (va_AO.use (A := #[]) h)
  exact ⟨cA, fun n z => ⟨fun k h => (by cases h), kA, h2, comp, h3⟩, kA, comp, h2, h3, h1, h4⟩
theorem p_fc {T : List Cond} {a : Cond} {l : List Cond} (h : a ∈ T) (t : ∀ w ∈ l, w ∈ T) : ∀ w ∈ a :: l, w ∈ T := fun w hw => (List.mem_cons.mp hw).elim (fun e => by rw [e]; exact h) (t w)
theorem p_fn {T : List Cond} : ∀ w ∈ ([] : List Cond), w ∈ T := fun _ h => nomatch h
theorem p_fa {T a b : List Cond} (ha : ∀ w ∈ a, w ∈ T) (hb : ∀ w ∈ b, w ∈ T) : ∀ w ∈ a ++ b, w ∈ T := fun w h => (List.mem_append.mp h).elim (ha w) (hb w)
theorem gs_0 : (.fieldLink RX12 93 "RiverVows" "undoCount" "I" : Cond) ∈ gT := gT_of (List.mem_of_getElem? (i := 593) (by decide +kernel)) rfl
theorem gs_1 : (.fieldLink RX12 90 "RiverVows" "undoNext" "I" : Cond) ∈ gT := gT_of (List.mem_of_getElem? (i := 592) (by decide +kernel)) rfl
theorem gs_2 : (.fieldLink RX12 86 "RiverVows" "lineCount" "I" : Cond) ∈ gT := gT_of (List.mem_of_getElem? (i := 591) (by decide +kernel)) rfl
theorem gs_3 : (.fieldLink RX12 83 "RiverVows" "price" "[I" : Cond) ∈ gT := gT_of (List.mem_of_getElem? (i := 588) (by decide +kernel)) rfl
theorem gs_4 : (.fieldLink RX12 80 "RiverVows" "growth" "[I" : Cond) ∈ gT := gT_of (List.mem_of_getElem? (i := 587) (by decide +kernel)) rfl
theorem gs_5 : (.fieldLink RX12 76 "RiverVows" "findings" "LRiverVows$Findings;" : Cond) ∈ gT := gT_of (List.mem_of_getElem? (i := 586) (by decide +kernel)) rfl
theorem gs_6 : (.methodLink RX12 73 yX1_init : Cond) ∈ gT := gT_of (List.mem_of_getElem? (i := 559) (by decide +kernel)) rfl
theorem gs_7 : (.instanceMethod yX1_init : Cond) ∈ gT := gT_of (List.mem_of_getElem? (i := 560) (by decide +kernel)) rfl
theorem gs_8 : (.fieldLink RX1 15 "RiverVows$Findings" "now" "LRiverVows$Standing;" : Cond) ∈ gT := gT_of (List.mem_of_getElem? (i := 565) (by decide +kernel)) rfl
theorem gs_9 : (.fieldLink RX1 9 "RiverVows$Findings" "tally" "[I" : Cond) ∈ gT := gT_of (List.mem_of_getElem? (i := 566) (by decide +kernel)) rfl
theorem gs_10 : (.methodLink RX1 3 yX10_init : Cond) ∈ gT := gT_of (List.mem_of_getElem? (i := 562) (by decide +kernel)) rfl
theorem gs_11 : (.code yX1_init cX1_init 3 none : Cond) ∈ gT := gT_of (List.mem_of_getElem? (i := 561) (by decide +kernel)) rfl
theorem gs_12 : (.initialized RX1 : Cond) ∈ gT := gT_of (List.mem_of_getElem? (i := 153) (by decide +kernel)) rfl
theorem gs_13 : (.instantiable RX1 7 : Cond) ∈ gT := gT_of (List.mem_of_getElem? (i := 558) (by decide +kernel)) rfl
theorem gs_14 : (.classLink RX12 71 RX1 : Cond) ∈ gT := gT_of (List.mem_of_getElem? (i := 557) (by decide +kernel)) rfl
theorem gs_15 : (.fieldLink RX12 67 "RiverVows" "matches" "LRiverVows$Matches;" : Cond) ∈ gT := gT_of (List.mem_of_getElem? (i := 585) (by decide +kernel)) rfl
theorem gs_16 : (.methodLink RX12 64 yX4_init : Cond) ∈ gT := gT_of (List.mem_of_getElem? (i := 509) (by decide +kernel)) rfl
theorem gs_17 : (.instanceMethod yX4_init : Cond) ∈ gT := gT_of (List.mem_of_getElem? (i := 510) (by decide +kernel)) rfl
theorem gs_18 : (.methodLink RX4 3 yX10_init : Cond) ∈ gT := gT_of (List.mem_of_getElem? (i := 512) (by decide +kernel)) rfl
theorem gs_19 : (.instanceMethod yX10_init : Cond) ∈ gT := gT_of (List.mem_of_getElem? (i := 513) (by decide +kernel)) rfl
theorem gs_20 : (.initialized RX10 : Cond) ∈ gT := gT_of (List.mem_of_getElem? (i := 151) (by decide +kernel)) rfl
theorem gs_21 : (.fieldLink RX10 15 "RiverVows$Ways" "net" "LRiverVows$Net;" : Cond) ∈ gT := gT_of (List.mem_of_getElem? (i := 520) (by decide +kernel)) rfl
theorem gs_22 : (.fieldLink RX10 9 "RiverVows$Ways" "husband" "[I" : Cond) ∈ gT := gT_of (List.mem_of_getElem? (i := 525) (by decide +kernel)) rfl
theorem gs_23 : (.methodLink RX10 3 objectInit : Cond) ∈ gT := gT_of (List.mem_of_getElem? (i := 515) (by decide +kernel)) rfl
theorem gs_24 : (.code yX10_init cX10_init 2 none : Cond) ∈ gT := gT_of (List.mem_of_getElem? (i := 514) (by decide +kernel)) rfl
theorem gs_25 : (.code yX4_init cX4_init 2 none : Cond) ∈ gT := gT_of (List.mem_of_getElem? (i := 511) (by decide +kernel)) rfl
theorem gs_26 : (.initialized RX4 : Cond) ∈ gT := gT_of (List.mem_of_getElem? (i := 152) (by decide +kernel)) rfl
theorem gs_27 : (.instantiable RX4 6 : Cond) ∈ gT := gT_of (List.mem_of_getElem? (i := 508) (by decide +kernel)) rfl
theorem gs_28 : (.classLink RX12 62 RX4 : Cond) ∈ gT := gT_of (List.mem_of_getElem? (i := 507) (by decide +kernel)) rfl
theorem gs_29 : (.fieldLink RX12 58 "RiverVows" "net" "LRiverVows$Net;" : Cond) ∈ gT := gT_of (List.mem_of_getElem? (i := 584) (by decide +kernel)) rfl
theorem gs_30 : (.methodLink RX12 55 yX5_init : Cond) ∈ gT := gT_of (List.mem_of_getElem? (i := 487) (by decide +kernel)) rfl
theorem gs_31 : (.instanceMethod yX5_init : Cond) ∈ gT := gT_of (List.mem_of_getElem? (i := 488) (by decide +kernel)) rfl
theorem gs_32 : (.fieldLink RX5 18 "RiverVows$Net" "land" "LRiverVows$Land;" : Cond) ∈ gT := gT_of (List.mem_of_getElem? (i := 497) (by decide +kernel)) rfl
theorem gs_33 : (.fieldLink RX5 15 "RiverVows$Net" "whole" "[I" : Cond) ∈ gT := gT_of (List.mem_of_getElem? (i := 494) (by decide +kernel)) rfl
theorem gs_34 : (.fieldLink RX5 9 "RiverVows$Net" "husband" "[I" : Cond) ∈ gT := gT_of (List.mem_of_getElem? (i := 491) (by decide +kernel)) rfl
theorem gs_35 : (.methodLink RX5 3 objectInit : Cond) ∈ gT := gT_of (List.mem_of_getElem? (i := 490) (by decide +kernel)) rfl
theorem gs_36 : (.code yX5_init cX5_init 2 none : Cond) ∈ gT := gT_of (List.mem_of_getElem? (i := 489) (by decide +kernel)) rfl
theorem gs_37 : (.initialized RX5 : Cond) ∈ gT := gT_of (List.mem_of_getElem? (i := 150) (by decide +kernel)) rfl
theorem gs_38 : (.instantiable RX5 3 : Cond) ∈ gT := gT_of (List.mem_of_getElem? (i := 486) (by decide +kernel)) rfl
theorem gs_39 : (.classLink RX12 53 RX5 : Cond) ∈ gT := gT_of (List.mem_of_getElem? (i := 485) (by decide +kernel)) rfl
theorem gs_40 : (.fieldLink RX12 49 "RiverVows" "lines" "[I" : Cond) ∈ gT := gT_of (List.mem_of_getElem? (i := 583) (by decide +kernel)) rfl
theorem gs_41 : (.fieldLink RX12 46 "RiverVows" "marks" "[LRiverVows$Standing;" : Cond) ∈ gT := gT_of (List.mem_of_getElem? (i := 582) (by decide +kernel)) rfl
theorem gs_42 : (.fieldLink RX12 42 "RiverVows" "undoable" "[LRiverVows$Standing;" : Cond) ∈ gT := gT_of (List.mem_of_getElem? (i := 581) (by decide +kernel)) rfl
theorem gs_43 : (.fieldLink RX12 38 "RiverVows" "now" "LRiverVows$Standing;" : Cond) ∈ gT := gT_of (List.mem_of_getElem? (i := 580) (by decide +kernel)) rfl
theorem gs_44 : (.methodLink RX12 37 yX9_init : Cond) ∈ gT := gT_of (List.mem_of_getElem? (i := 432) (by decide +kernel)) rfl
theorem gs_45 : (.instanceMethod yX9_init : Cond) ∈ gT := gT_of (List.mem_of_getElem? (i := 433) (by decide +kernel)) rfl
theorem gs_46 : (.fieldLink RX9 33 "RiverVows$Standing" "heirs" "I" : Cond) ∈ gT := gT_of (List.mem_of_getElem? (i := 455) (by decide +kernel)) rfl
theorem gs_47 : (.fieldLink RX9 30 "RiverVows$Standing" "toldFlow" "[I" : Cond) ∈ gT := gT_of (List.mem_of_getElem? (i := 450) (by decide +kernel)) rfl
theorem gs_48 : (.fieldLink RX9 27 "RiverVows$Standing" "toldSeason" "[I" : Cond) ∈ gT := gT_of (List.mem_of_getElem? (i := 447) (by decide +kernel)) rfl
theorem gs_49 : (.fieldLink RX9 24 "RiverVows$Standing" "toldRiver" "[I" : Cond) ∈ gT := gT_of (List.mem_of_getElem? (i := 444) (by decide +kernel)) rfl
theorem gs_50 : (.fieldLink RX9 21 "RiverVows$Standing" "wants" "[I" : Cond) ∈ gT := gT_of (List.mem_of_getElem? (i := 442) (by decide +kernel)) rfl
theorem gs_51 : (.fieldLink RX9 18 "RiverVows$Standing" "silt" "[I" : Cond) ∈ gT := gT_of (List.mem_of_getElem? (i := 440) (by decide +kernel)) rfl
theorem gs_52 : (.fieldLink RX9 15 "RiverVows$Standing" "owed" "[I" : Cond) ∈ gT := gT_of (List.mem_of_getElem? (i := 438) (by decide +kernel)) rfl
theorem gs_53 : (.fieldLink RX9 9 "RiverVows$Standing" "husband" "[I" : Cond) ∈ gT := gT_of (List.mem_of_getElem? (i := 436) (by decide +kernel)) rfl
theorem gs_54 : (.methodLink RX9 3 objectInit : Cond) ∈ gT := gT_of (List.mem_of_getElem? (i := 435) (by decide +kernel)) rfl
theorem gs_55 : (.code yX9_init cX9_init 2 none : Cond) ∈ gT := gT_of (List.mem_of_getElem? (i := 434) (by decide +kernel)) rfl
theorem gs_56 : (.initialized RX9 : Cond) ∈ gT := gT_of (List.mem_of_getElem? (i := 149) (by decide +kernel)) rfl
theorem gs_57 : (.instantiable RX9 11 : Cond) ∈ gT := gT_of (List.mem_of_getElem? (i := 431) (by decide +kernel)) rfl
theorem gs_58 : (.classLink RX12 35 RX9 : Cond) ∈ gT := gT_of (List.mem_of_getElem? (i := 430) (by decide +kernel)) rfl
theorem gs_59 : (.fieldLink RX12 31 "RiverVows" "reader" "LRiverVows$Reader;" : Cond) ∈ gT := gT_of (List.mem_of_getElem? (i := 579) (by decide +kernel)) rfl
theorem gs_60 : (.methodLink RX12 28 yX6_init : Cond) ∈ gT := gT_of (List.mem_of_getElem? (i := 388) (by decide +kernel)) rfl
theorem gs_61 : (.instanceMethod yX6_init : Cond) ∈ gT := gT_of (List.mem_of_getElem? (i := 389) (by decide +kernel)) rfl
theorem gs_62 : (.fieldLink RX6 32 "RiverVows$Reader" "formula" "LRiverVows$Formula;" : Cond) ∈ gT := gT_of (List.mem_of_getElem? (i := 402) (by decide +kernel)) rfl
theorem gs_63 : (.fieldLink RX6 26 "RiverVows$Land" "dowry" "LRiverVows$Formula;" : Cond) ∈ gT := gT_of (List.mem_of_getElem? (i := 333) (by decide +kernel)) rfl
theorem gs_64 : (.fieldLink RX6 22 "RiverVows$Reader" "land" "LRiverVows$Land;" : Cond) ∈ gT := gT_of (List.mem_of_getElem? (i := 401) (by decide +kernel)) rfl
theorem gs_65 : (.fieldLink RX6 18 "RiverVows$Reader" "scan" "LRiverVows$Scanner;" : Cond) ∈ gT := gT_of (List.mem_of_getElem? (i := 400) (by decide +kernel)) rfl
theorem gs_66 : (.fieldLink RX6 15 "RiverVows$Reader" "wants" "[I" : Cond) ∈ gT := gT_of (List.mem_of_getElem? (i := 394) (by decide +kernel)) rfl
theorem gs_67 : (.fieldLink RX6 9 "RiverVows$Reader" "lines" "[I" : Cond) ∈ gT := gT_of (List.mem_of_getElem? (i := 392) (by decide +kernel)) rfl
theorem gs_68 : (.methodLink RX6 3 objectInit : Cond) ∈ gT := gT_of (List.mem_of_getElem? (i := 391) (by decide +kernel)) rfl
theorem gs_69 : (.code yX6_init cX6_init 3 none : Cond) ∈ gT := gT_of (List.mem_of_getElem? (i := 390) (by decide +kernel)) rfl
theorem gs_70 : (.initialized RX6 : Cond) ∈ gT := gT_of (List.mem_of_getElem? (i := 148) (by decide +kernel)) rfl
theorem gs_71 : (.instantiable RX6 11 : Cond) ∈ gT := gT_of (List.mem_of_getElem? (i := 387) (by decide +kernel)) rfl
theorem gs_72 : (.classLink RX12 26 RX6 : Cond) ∈ gT := gT_of (List.mem_of_getElem? (i := 386) (by decide +kernel)) rfl
theorem gs_73 : (.fieldLink RX12 23 "RiverVows" "draft" "LRiverVows$Land;" : Cond) ∈ gT := gT_of (List.mem_of_getElem? (i := 590) (by decide +kernel)) rfl
theorem gs_74 : (.fieldLink RX12 19 "RiverVows" "country" "LRiverVows$Land;" : Cond) ∈ gT := gT_of (List.mem_of_getElem? (i := 589) (by decide +kernel)) rfl
theorem gs_75 : (.methodLink RX12 18 yX3_init : Cond) ∈ gT := gT_of (List.mem_of_getElem? (i := 232) (by decide +kernel)) rfl
theorem gs_76 : (.instanceMethod yX3_init : Cond) ∈ gT := gT_of (List.mem_of_getElem? (i := 233) (by decide +kernel)) rfl
theorem gs_77 : (.selects RX2 yX2_add yX2_add : Cond) ∈ gT := gT_of (List.mem_of_getElem? (i := 323) (by decide +kernel)) rfl
theorem gs_78 : (.instanceMethod yX2_add : Cond) ∈ gT := gT_of (List.mem_of_getElem? (i := 322) (by decide +kernel)) rfl
theorem gs_79 : (.methodLink RX3 41 yX2_add : Cond) ∈ gT := gT_of (List.mem_of_getElem? (i := 321) (by decide +kernel)) rfl
theorem gs_80 : (.fieldLink RX2 18 "RiverVows$Formula" "length" "I" : Cond) ∈ gT := gT_of (List.mem_of_getElem? (i := 246) (by decide +kernel)) rfl
theorem gs_81 : (.code yX2_add cX2_add 2 none : Cond) ∈ gT := gT_of (List.mem_of_getElem? (i := 324) (by decide +kernel)) rfl
theorem gs_82 : (.instanceMethod yX7_init : Cond) ∈ gT := gT_of (List.mem_of_getElem? (i := 256) (by decide +kernel)) rfl
theorem gs_83 : (.fieldLink RX7 9 "RiverVows$River" "water" "[I" : Cond) ∈ gT := gT_of (List.mem_of_getElem? (i := 259) (by decide +kernel)) rfl
theorem gs_84 : (.methodLink RX7 3 objectInit : Cond) ∈ gT := gT_of (List.mem_of_getElem? (i := 258) (by decide +kernel)) rfl
theorem gs_85 : (.code yX7_init cX7_init 1 none : Cond) ∈ gT := gT_of (List.mem_of_getElem? (i := 257) (by decide +kernel)) rfl
theorem gs_86 : (.initialized RX7 : Cond) ∈ gT := gT_of (List.mem_of_getElem? (i := 147) (by decide +kernel)) rfl
theorem gs_87 : (.instantiable RX7 12 : Cond) ∈ gT := gT_of (List.mem_of_getElem? (i := 254) (by decide +kernel)) rfl
theorem gs_88 : (.fieldLink RX3 37 "RiverVows$Land" "sums" "[I" : Cond) ∈ gT := gT_of (List.mem_of_getElem? (i := 342) (by decide +kernel)) rfl
theorem gs_89 : (.fieldLink RX3 34 "RiverVows$Land" "fits" "[I" : Cond) ∈ gT := gT_of (List.mem_of_getElem? (i := 339) (by decide +kernel)) rfl
theorem gs_90 : (.fieldLink RX3 31 "RiverVows$Land" "silt" "LRiverVows$Formula;" : Cond) ∈ gT := gT_of (List.mem_of_getElem? (i := 336) (by decide +kernel)) rfl
theorem gs_91 : (.fieldLink RX3 27 "RiverVows$Land" "dowry" "LRiverVows$Formula;" : Cond) ∈ gT := gT_of (List.mem_of_getElem? (i := 334) (by decide +kernel)) rfl
theorem gs_92 : (.instanceMethod yX2_init : Cond) ∈ gT := gT_of (List.mem_of_getElem? (i := 241) (by decide +kernel)) rfl
theorem gs_93 : (.fieldLink RX2 15 "RiverVows$Formula" "stack" "[I" : Cond) ∈ gT := gT_of (List.mem_of_getElem? (i := 245) (by decide +kernel)) rfl
theorem gs_94 : (.fieldLink RX2 9 "RiverVows$Formula" "steps" "[I" : Cond) ∈ gT := gT_of (List.mem_of_getElem? (i := 244) (by decide +kernel)) rfl
theorem gs_95 : (.methodLink RX2 3 objectInit : Cond) ∈ gT := gT_of (List.mem_of_getElem? (i := 243) (by decide +kernel)) rfl
theorem gs_96 : (.code yX2_init cX2_init 1 none : Cond) ∈ gT := gT_of (List.mem_of_getElem? (i := 242) (by decide +kernel)) rfl
theorem gs_97 : (.initialized RX2 : Cond) ∈ gT := gT_of (List.mem_of_getElem? (i := 146) (by decide +kernel)) rfl
theorem gs_98 : (.instantiable RX2 3 : Cond) ∈ gT := gT_of (List.mem_of_getElem? (i := 239) (by decide +kernel)) rfl
theorem gs_99 : (.classLink RX3 24 RX2 : Cond) ∈ gT := gT_of (List.mem_of_getElem? (i := 238) (by decide +kernel)) rfl
theorem gs_100 : (.fieldLink RX3 21 "RiverVows$Land" "rangeThick" "[I" : Cond) ∈ gT := gT_of (List.mem_of_getElem? (i := 331) (by decide +kernel)) rfl
theorem gs_101 : (.fieldLink RX3 17 "RiverVows$Land" "rangeAt" "[I" : Cond) ∈ gT := gT_of (List.mem_of_getElem? (i := 329) (by decide +kernel)) rfl
theorem gs_102 : (.fieldLink RX3 13 "RiverVows$Land" "row" "[LRiverVows$River;" : Cond) ∈ gT := gT_of (List.mem_of_getElem? (i := 325) (by decide +kernel)) rfl
theorem gs_103 : (.classLink RX3 11 RX7 : Cond) ∈ gT := gT_of (List.mem_of_getElem? (i := 236) (by decide +kernel)) rfl
theorem gs_104 : (.methodLink RX3 5 objectInit : Cond) ∈ gT := gT_of (List.mem_of_getElem? (i := 235) (by decide +kernel)) rfl
theorem gs_105 : (.code yX3_init cX3_init 2 none : Cond) ∈ gT := gT_of (List.mem_of_getElem? (i := 234) (by decide +kernel)) rfl
theorem gs_106 : (.initialized RX3 : Cond) ∈ gT := gT_of (List.mem_of_getElem? (i := 145) (by decide +kernel)) rfl
theorem gs_107 : (.instantiable RX3 12 : Cond) ∈ gT := gT_of (List.mem_of_getElem? (i := 231) (by decide +kernel)) rfl
theorem gs_108 : (.classLink RX12 16 RX3 : Cond) ∈ gT := gT_of (List.mem_of_getElem? (i := 230) (by decide +kernel)) rfl
theorem gs_109 : (.fieldLink RX12 10 "RiverVows" "tape" "LRiverVows$Scanner;" : Cond) ∈ gT := gT_of (List.mem_of_getElem? (i := 578) (by decide +kernel)) rfl
theorem gs_110 : (.instanceMethod yX8_init : Cond) ∈ gT := gT_of (List.mem_of_getElem? (i := 181) (by decide +kernel)) rfl
theorem gs_111 : (.fieldLink RX8 22 "RiverVows$Scanner" "keys" "[J" : Cond) ∈ gT := gT_of (List.mem_of_getElem? (i := 187) (by decide +kernel)) rfl
theorem gs_112 : (.arrayClass .long : Cond) ∈ gT := gT_of (List.mem_of_getElem? (i := 229) (by decide +kernel)) rfl
theorem gs_113 : (.fieldLink RX8 19 "RiverVows$Scanner" "starts" "[I" : Cond) ∈ gT := gT_of (List.mem_of_getElem? (i := 186) (by decide +kernel)) rfl
theorem gs_114 : (.fieldLink RX8 15 "RiverVows$Scanner" "kinds" "[I" : Cond) ∈ gT := gT_of (List.mem_of_getElem? (i := 185) (by decide +kernel)) rfl
theorem gs_115 : (.arrayClass .int : Cond) ∈ gT := gT_of (List.mem_of_getElem? (i := 228) (by decide +kernel)) rfl
theorem gs_116 : (.fieldLink RX8 9 "RiverVows$Scanner" "signs" "[C" : Cond) ∈ gT := gT_of (List.mem_of_getElem? (i := 184) (by decide +kernel)) rfl
theorem gs_117 : (.arrayClass .char : Cond) ∈ gT := gT_of (List.mem_of_getElem? (i := 227) (by decide +kernel)) rfl
theorem gs_118 : (.methodLink RX8 3 objectInit : Cond) ∈ gT := gT_of (List.mem_of_getElem? (i := 183) (by decide +kernel)) rfl
theorem gs_119 : (.code yX8_init cX8_init 1 none : Cond) ∈ gT := gT_of (List.mem_of_getElem? (i := 182) (by decide +kernel)) rfl
theorem gs_120 : (.initialized RX8 : Cond) ∈ gT := gT_of (List.mem_of_getElem? (i := 144) (by decide +kernel)) rfl
theorem gs_121 : (.instantiable RX8 12 : Cond) ∈ gT := gT_of (List.mem_of_getElem? (i := 179) (by decide +kernel)) rfl
theorem gs_122 : (.classLink RX12 7 RX8 : Cond) ∈ gT := gT_of (List.mem_of_getElem? (i := 178) (by decide +kernel)) rfl
theorem gs_123 : (.code objectInit ⟨#[0xb1]⟩ 1 none : Cond) ∈ gT := gT_of (List.mem_of_getElem? (i := 177) (by decide +kernel)) rfl
theorem gs_124 : (.instanceMethod objectInit : Cond) ∈ gT := gT_of (List.mem_of_getElem? (i := 176) (by decide +kernel)) rfl
theorem gs_125 : (.methodLink RX12 1 objectInit : Cond) ∈ gT := gT_of (List.mem_of_getElem? (i := 175) (by decide +kernel)) rfl
theorem gs_126 : (.code yX12_init cX12_init 2 none : Cond) ∈ gT := gT_of (List.mem_of_getElem? (i := 174) (by decide +kernel)) rfl
theorem gs_127 : (.code yX13_init cX13_init 1 none : Cond) ∈ gT := gT_of (List.mem_of_getElem? (i := 1527) (by decide +kernel)) rfl
theorem in_RiverVows_init : ∀ w ∈ pw_RiverVows_init, w ∈ gTC := (p_fc (gTC_in gs_126) (p_fa (p_fa (p_fa (p_fa (p_fa (p_fa (p_fa (p_fa (p_fa (p_fa (p_fc (gTC_in gs_125) (p_fc (gTC_in gs_124) (p_fc (gTC_in gs_123) (p_fc (gTC_in gs_122) (p_fc (gTC_in gs_121) (p_fc (gTC_in gs_120) (p_fc (gTC_in gs_119) (p_fc (gTC_in gs_118) (p_fc (gTC_in gs_117) (p_fc (gTC_in gs_116) (p_fc (gTC_in gs_115) (p_fc (gTC_in gs_114) (p_fc (gTC_in gs_113) (p_fc (gTC_in gs_112) (p_fc (gTC_in gs_111) (p_fc (gTC_in gs_110) (p_fc (gTC_in gs_109) (p_fc (gTC_in gs_108) (p_fc (gTC_in gs_107) (p_fc (gTC_in gs_106) (p_fc (gTC_in gs_105) (p_fc (gTC_in gs_104) (p_fc (gTC_in gs_103) (p_fc (gTC_in gs_102) (p_fc (gTC_in gs_101) (p_fc (gTC_in gs_100) (p_fc (gTC_in gs_99) (p_fc (gTC_in gs_98) (p_fc (gTC_in gs_97) (p_fc (gTC_in gs_96) (p_fc (gTC_in gs_95) (p_fc (gTC_in gs_94) (p_fc (gTC_in gs_93) (p_fc (gTC_in gs_92) (p_fc (gTC_in gs_91) (p_fc (gTC_in gs_90) (p_fc (gTC_in gs_89) (p_fc (gTC_in gs_88) (p_fc (gTC_in gs_87) (p_fc (gTC_in gs_86) (p_fc (gTC_in gs_85) (p_fc (gTC_in gs_84) (p_fc (gTC_in gs_83) (p_fc (gTC_in gs_82) (p_fc (gTC_in gs_81) (p_fc (gTC_in gs_80) (p_fc (gTC_in gs_79) (p_fc (gTC_in gs_78) (p_fc (gTC_in gs_77) (p_fc (gTC_in gs_76) (p_fc (gTC_in gs_75) (p_fc (gTC_in gs_74) (p_fc (gTC_in gs_73) (p_fc (gTC_in gs_72) (p_fc (gTC_in gs_71) (p_fc (gTC_in gs_70) (p_fc (gTC_in gs_69) (p_fc (gTC_in gs_68) (p_fc (gTC_in gs_67) (p_fc (gTC_in gs_66) (p_fc (gTC_in gs_65) (p_fc (gTC_in gs_64) (p_fc (gTC_in gs_63) (p_fc (gTC_in gs_62) (p_fc (gTC_in gs_61) (p_fc (gTC_in gs_60) (p_fc (gTC_in gs_59) (p_fc (gTC_in gs_58) (p_fc (gTC_in gs_57) (p_fc (gTC_in gs_56) (p_fc (gTC_in gs_55) (p_fc (gTC_in gs_54) (p_fc (gTC_in gs_53) (p_fc (gTC_in gs_52) (p_fc (gTC_in gs_51) (p_fc (gTC_in gs_50) (p_fc (gTC_in gs_49) (p_fc (gTC_in gs_48) (p_fc (gTC_in gs_47) (p_fc (gTC_in gs_46) (p_fc (gTC_in gs_45) (p_fc (gTC_in gs_44) (p_fc (gTC_in gs_43) (p_fc (gTC_in gs_42) (p_fc (gTC_in gs_41) (p_fc (gTC_in gs_40) (p_fc (gTC_in gs_39) (p_fc (gTC_in gs_38) (p_fc (gTC_in gs_37) (p_fc (gTC_in gs_36) (p_fc (gTC_in gs_35) (p_fc (gTC_in gs_34) (p_fc (gTC_in gs_33) (p_fc (gTC_in gs_32) (p_fc (gTC_in gs_31) (p_fc (gTC_in gs_30) (p_fc (gTC_in gs_29) (p_fc (gTC_in gs_28) (p_fc (gTC_in gs_27) (p_fc (gTC_in gs_26) (p_fc (gTC_in gs_25) (p_fc (gTC_in gs_24) (p_fc (gTC_in gs_23) (p_fc (gTC_in gs_22) (p_fc (gTC_in gs_21) (p_fc (gTC_in gs_20) (p_fc (gTC_in gs_19) (p_fc (gTC_in gs_18) (p_fc (gTC_in gs_17) (p_fc (gTC_in gs_16) (p_fc (gTC_in gs_15) (p_fc (gTC_in gs_14) (p_fc (gTC_in gs_13) (p_fc (gTC_in gs_12) (p_fc (gTC_in gs_11) (p_fc (gTC_in gs_10) (p_fc (gTC_in gs_9) (p_fc (gTC_in gs_8) (p_fc (gTC_in gs_7) (p_fc (gTC_in gs_6) (p_fc (gTC_in gs_5) (p_fc (gTC_in gs_4) (p_fc (gTC_in gs_3) (p_fc (gTC_in gs_2) (p_fc (gTC_in gs_1) (p_fc (gTC_in gs_0) p_fn)))))))))))))))))))))))))))))))))))))))))))))))))))))))))))))))))))))))))))))))))))))))))))))))))))))))))))))))))))))))))))))) gl_X8) gl_X12) gl_X3) gl_X2) gl_X7) gl_X6) gl_X9) gl_X5) gl_X4) gl_X1))
theorem good_RiverVows_init : GoodIn gTC pw_RiverVows_init := fun w hw => ⟨in_RiverVows_init w hw, good_of_word (gTC_ok w (in_RiverVows_init w hw))⟩
theorem good_Model_init : GoodIn gTC pwM_init := fun w hw => by
  have h : w ∈ gTC := gTC_in ((List.mem_cons.mp hw).elim (fun e => by rw [e]; exact gs_127) id)
  exact ⟨h, good_of_word (gTC_ok w h)⟩
theorem mi_pre {s : State} {H : Heap} {locs : List Loc} {D : va_G} {k : Nat → ClassId} {z : Nat → Nat} {A : Nat → Prop} {w1 w2 : va_W} {av : List Value} (hK : va_K D vwCl (pT k) s) (hN : fN z A s s.heap) (hP : va_P D vwCl (w1 ++ w2) H) (hD : va_D A (w1 ++ w2)) (hS : va_S A s.heap H locs) (hA : ∀ q : Nat, s.heap.size ≤ q → A q) : PreS s H (va_Pc av (f_Pre D k z w1 H.size)) av :=
  ⟨f_Blind, fun U hU hW => ⟨rfl, by rw [hU], by rw [hU]; exact f_P1 hP, va_K.moved hW.alike hK, by rw [hU]; exact hN.to hS hW (f_in1 hA hD hS), (f_D1 hD).weaken (fun _ _ _ _ => trivial)⟩⟩
set_option maxHeartbeats 4000000 in
set_option maxRecDepth 100000 in
theorem whole_start {p : Program} {e : Env} {s : State} {m : MethodId} {below : List Frame} {meth : Method} {c : Code} (l : Launch) (hst : l.stackTraces = false) {b L : Nat} {xs : Nat → Int32} (hL : L ≤ 3584) (C0 : lw_At p s m meth c b L xs) : W p l e room_1 s m #[Value.ref b] below meth c s.heap [] 0 0 (lw_Z below #[Value.ref b] s) (entryFrame m ([Value.ref b] : List Value).toArray 7) := by
  obtain ⟨hx, hb, hr, hml, hown, hts0, hX, hbl, hlocks, hgv⟩ := id C0
  have hs1 : (Cond.selects RX4 ⟨"RiverVows$Ways", "search", "(III)V"⟩ yX10_search).before #[Value.ref b] s = true := p_selPriv (z := yX10_refresh) (x := ⟨"RiverVows$Matches", "refresh", "(LRiverVows$Land;)V"⟩) (by decide) rfl (hts0 (.selects RX4 ⟨"RiverVows$Matches", "refresh", "(LRiverVows$Land;)V"⟩ yX10_refresh) (List.mem_of_getElem? (i := 1258) (by decide +kernel))) (hts0 (.privateMethod yX10_search) (List.mem_of_getElem? (i := 1272) (by decide +kernel))) (hts0 (.instanceMethod yX10_search) (List.mem_of_getElem? (i := 1273) (by decide +kernel)))
  have hs2 : (Cond.selects RX1 ⟨"RiverVows$Ways", "search", "(III)V"⟩ yX10_search).before #[Value.ref b] s = true := p_selPriv (z := yX10_refresh) (x := ⟨"RiverVows$Findings", "refresh", "(LRiverVows$Land;)V"⟩) (by decide) rfl (hts0 (.selects RX1 ⟨"RiverVows$Findings", "refresh", "(LRiverVows$Land;)V"⟩ yX10_refresh) (List.mem_of_getElem? (i := 1392) (by decide +kernel))) (hts0 (.privateMethod yX10_search) (List.mem_of_getElem? (i := 1272) (by decide +kernel))) (hts0 (.instanceMethod yX10_search) (List.mem_of_getElem? (i := 1273) (by decide +kernel)))
  have hts : ∀ w ∈ gTC, w.before #[Value.ref b] s = true := List.forall_mem_cons.mpr ⟨hs2, List.forall_mem_cons.mpr ⟨hs1, fun w h => hts0 w (List.mem_filter.mp h).1⟩⟩
  obtain ⟨A, hAe⟩ : ∃ A : Nat → Prop, A = fun q => s.heap.size ≤ q := ⟨_, rfl⟩
  have hA : ∀ q : Nat, s.heap.size ≤ q → A q := fun q h => by rw [hAe]; exact h
  have hAf : ∀ q : Nat, A q → s.heap.size ≤ q := fun q h => by rw [hAe] at h; exact h
  obtain ⟨d0, i0, hKn0⟩ := u_known (C := RX1) (T := TX1) (N := 7) (n := 7) hts gl_X1 (hts0 (.instantiable RX1 7) (List.mem_of_getElem? (i := 558) (by decide +kernel)))
  obtain ⟨d1, i1, hKn1⟩ := u_known (C := RX2) (T := TX2) (N := 3) (n := 3) hts gl_X2 (hts0 (.instantiable RX2 3) (List.mem_of_getElem? (i := 239) (by decide +kernel)))
  obtain ⟨d2, i2, hKn2⟩ := u_known (C := RX3) (T := TX3) (N := 12) (n := 12) hts gl_X3 (hts0 (.instantiable RX3 12) (List.mem_of_getElem? (i := 231) (by decide +kernel)))
  obtain ⟨d3, i3, hKn3⟩ := u_known (C := RX4) (T := TX4) (N := 6) (n := 6) hts gl_X4 (hts0 (.instantiable RX4 6) (List.mem_of_getElem? (i := 508) (by decide +kernel)))
  obtain ⟨d4, i4, hKn4⟩ := u_known (C := RX5) (T := TX5) (N := 3) (n := 3) hts gl_X5 (hts0 (.instantiable RX5 3) (List.mem_of_getElem? (i := 486) (by decide +kernel)))
  obtain ⟨d5, i5, hKn5⟩ := u_known (C := RX6) (T := TX6) (N := 11) (n := 11) hts gl_X6 (hts0 (.instantiable RX6 11) (List.mem_of_getElem? (i := 387) (by decide +kernel)))
  obtain ⟨d6, i6, hKn6⟩ := u_known (C := RX7) (T := TX7) (N := 12) (n := 12) hts gl_X7 (hts0 (.instantiable RX7 12) (List.mem_of_getElem? (i := 254) (by decide +kernel)))
  obtain ⟨d7, i7, hKn7⟩ := u_known (C := RX8) (T := TX8) (N := 12) (n := 12) hts gl_X8 (hts0 (.instantiable RX8 12) (List.mem_of_getElem? (i := 179) (by decide +kernel)))
  obtain ⟨d8, i8, hKn8⟩ := u_known (C := RX9) (T := TX9) (N := 11) (n := 11) hts gl_X9 (hts0 (.instantiable RX9 11) (List.mem_of_getElem? (i := 431) (by decide +kernel)))
  obtain ⟨d9, i9, hKn9⟩ := u_known (C := RX12) (T := TX12) (N := 16) (n := 16) hts gl_X12 (hts0 (.instantiable RX12 16) (List.mem_of_getElem? (i := 171) (by decide +kernel)))
  obtain ⟨d10, i10, hKn10⟩ := u_known (C := RX13) (T := TX13) (N := 42) (n := 42) hts (fun w h => List.mem_cons_of_mem _ (List.mem_cons_of_mem _ (gl_X13 w h))) (hts0 (.instantiable RX13 42) (List.mem_of_getElem? (i := 1522) (by decide +kernel)))
  obtain ⟨D, hKc⟩ : ∃ D : va_G, ∀ (k : Nat) (q : vw_C), vwCl[k]? = some q → u_Kn s q.1 q.2.1 q.2.2 (D.1 k) (D.2 k) := by
    refine ⟨(fun k => ([d0, d1, d2, d3, d4, d5, d6, d7, d8, d9, d10] : List ClassId).getD k d0, fun k => ([i0, i1, i2, i3, i4, i5, i6, i7, i8, i9, i10] : List (Nat → Nat)).getD k i0), ?_⟩
    intro k q hq
    match k, hq with
    | 0, hq => cases hq; exact hKn0
    | 1, hq => cases hq; exact hKn1
    | 2, hq => cases hq; exact hKn2
    | 3, hq => cases hq; exact hKn3
    | 4, hq => cases hq; exact hKn4
    | 5, hq => cases hq; exact hKn5
    | 6, hq => cases hq; exact hKn6
    | 7, hq => cases hq; exact hKn7
    | 8, hq => cases hq; exact hKn8
    | 9, hq => cases hq; exact hKn9
    | 10, hq => cases hq; exact hKn10
    | k + 11, hq => simp [vwCl] at hq
  obtain ⟨k0, hk0⟩ := p_arrP (ty := .char) (by intro C h; cases h) (hts0 (.arrayClass .char) (List.mem_of_getElem? (i := 227) (by decide +kernel)))
  obtain ⟨k1, hk1⟩ := p_arrP (ty := .int) (by intro C h; cases h) (hts0 (.arrayClass .int) (List.mem_of_getElem? (i := 228) (by decide +kernel)))
  obtain ⟨k2, hk2⟩ := p_arrP (ty := .long) (by intro C h; cases h) (hts0 (.arrayClass .long) (List.mem_of_getElem? (i := 229) (by decide +kernel)))
  obtain ⟨k3, hk3⟩ := p_arrP (ty := .boolean) (by intro C h; cases h) (hts0 (.arrayClass .boolean) (List.mem_of_getElem? (i := 1699) (by decide +kernel)))
  have hN : pN s := ⟨va_Nw.of rfl (hts0 (.methodLinkNest "RiverVows" 9 yX8_init "RiverVows") (List.mem_of_getElem? (i := 180) (by decide +kernel))), va_Nw.of rfl (hts0 (.methodLinkNest "RiverVows$Land" 26 yX2_init "RiverVows") (List.mem_of_getElem? (i := 240) (by decide +kernel))), va_Nw.of rfl (hts0 (.methodLinkNest "RiverVows$Land" 40 yX7_init "RiverVows") (List.mem_of_getElem? (i := 255) (by decide +kernel))), va_AO.of (hts0 (.arrayOver (.object "RiverVows$Standing")) (List.mem_of_getElem? (i := 484) (by decide +kernel))), va_AO.of (hts0 (.arrayOver (.object "RiverVows$River")) (List.mem_of_getElem? (i := 237) (by decide +kernel))), va_Nw.of rfl (hts0 (.declares ⟨"RiverVows$Ways", "begin", "()V"⟩) (List.mem_of_getElem? (i := 1263) (by decide +kernel))), va_Nw.of rfl (hts0 (.declares ⟨"RiverVows$Ways", "note", "(II)V"⟩) (List.mem_of_getElem? (i := 1276) (by decide +kernel))), va_Nw.of rfl (hts0 (.declares ⟨"RiverVows$Ways", "end", "()V"⟩) (List.mem_of_getElem? (i := 1293) (by decide +kernel)))⟩
  obtain ⟨k4, hk4⟩ := p_arrO hN.2.2.2.1
  obtain ⟨k5, hk5⟩ := p_arrO hN.2.2.2.2.1
  obtain ⟨k, hk⟩ : ∃ k : Nat → ClassId, k = fun i => ([k0, k1, k2, k3, k4, k5] : List ClassId).getD i k0 := ⟨_, rfl⟩
  have hK : va_K D vwCl (pT k) s := by
    refine ⟨hKc, ?_⟩
    subst hk
    intro j q hq
    match j, hq with
    | 0, hq => cases hq; exact hk0
    | 1, hq => cases hq; exact hk1
    | 2, hq => cases hq; exact hk2
    | 3, hq => cases hq; exact hk3
    | 4, hq => cases hq; exact hk4
    | 5, hq => cases hq; exact hk5
    | j + 6, hq => simp at hq
  have hfl := flat_of_before _ hgv
  have hnA : ∀ a : Nat, a < s.heap.size → ¬ A a := fun a h h2 => absurd (hAf a h2) (Nat.not_le.mpr h)
  have hZ1 : vx_Zq Bundle.tN "UNASSIGNED_STACK" Bundle.steD A s s.heap := vx_Zqof (hts0 (.laysStatic "java/lang/Throwable" "UNASSIGNED_STACK" "[Ljava/lang/StackTraceElement;") (List.mem_of_getElem? (i := 1465) (by decide +kernel))) (hts0 (.initialized "java/lang/Throwable") (List.mem_of_getElem? (i := 165) (by decide +kernel))) (hfl _ (by decide +kernel)) hnA
  have hZ2 : vx_Zq Bundle.tN "SUPPRESSED_SENTINEL" Bundle.listD A s s.heap := vx_Zqof (hts0 (.laysStatic "java/lang/Throwable" "SUPPRESSED_SENTINEL" "Ljava/util/List;") (List.mem_of_getElem? (i := 1467) (by decide +kernel))) (hts0 (.initialized "java/lang/Throwable") (List.mem_of_getElem? (i := 165) (by decide +kernel))) (hfl _ (by decide +kernel)) hnA
  obtain ⟨sa1, -, -, -, hsa1, -⟩ := Cond.exactly_spec (hfl (.exactly (.string "RiverVows" 193) "java/lang/String") (by decide +kernel))
  obtain ⟨sa2, -, -, -, hsa2, -⟩ := Cond.exactly_spec (hfl (.exactly (.string "RiverVows" 351) "java/lang/String") (by decide +kernel))
  have hX1 : pX 193 "no such river, or nothing such of it" sa1 A s := ⟨hZ1, hZ2, vk_R.of (hts0 (.stringRef "RiverVows" 193 "no such river, or nothing such of it") (List.mem_of_getElem? (i := 1477) (by decide +kernel))) hsa1, va_Nw.of rfl (hts0 (.castable "java/util/NoSuchElementException" "java/util/NoSuchElementException") (List.mem_of_getElem? (i := 1440) (by decide +kernel))), va_Nw.of rfl (hts0 (.declares ⟨"java/lang/RuntimeException", "<init>", "(Ljava/lang/String;)V"⟩) (List.mem_of_getElem? (i := 1442) (by decide +kernel))), va_Nw.of rfl (hts0 (.declares ⟨"java/lang/Exception", "<init>", "(Ljava/lang/String;)V"⟩) (List.mem_of_getElem? (i := 1444) (by decide +kernel))), va_Nw.of rfl (hts0 (.declares ⟨"java/lang/Throwable", "<init>", "(Ljava/lang/String;)V"⟩) (List.mem_of_getElem? (i := 1446) (by decide +kernel)))⟩
  have hX2 : pX 351 "no such town, or nothing such of it" sa2 A s := ⟨hZ1, hZ2, vk_R.of (hts0 (.stringRef "RiverVows" 351 "no such town, or nothing such of it") (List.mem_of_getElem? (i := 1514) (by decide +kernel))) hsa2, hX1.2.2.2⟩
  have hS : va_S A s.heap s.heap [] := va_S.rf
  have hP : va_P D vwCl [] s.heap := fun k q h => by simp at h
  have hD : va_D A [] := ⟨fun i j p q h => by simp at h, fun k q h => by simp at h⟩
  have hl := lv_entry ([.ref b]) (n := 7) (Nat.le_of_ble_eq_true rfl)
  rw [lg_entry_eq]
  generalize (lg_sl ([.ref b]) ++ List.replicate (7 - (lg_sl ([.ref b])).length) Slot.unset).toArray = ls at hl ⊢
  have hl : lv_has ls 7 [(0, .ref b)] := hl
  obtain ⟨z, hz⟩ := zs_start (A := A) hts0 hgv hnA
  have hNz : fN z A s s.heap := ⟨hN, hz⟩
  have cl8 := hts0 (.classLink RL 8 RX12) (List.mem_of_getElem? (i := 170) (by decide +kernel))
  have isX12 := hts0 (.instantiable RX12 16) (List.mem_of_getElem? (i := 171) (by decide +kernel))
  have iniX12 := hts0 (.initialized RX12) (List.mem_of_getElem? (i := 143) (by decide +kernel))
  have imX12_init := hts0 (.instanceMethod yX12_init) (List.mem_of_getElem? (i := 173) (by decide +kernel))
  have ml18 := hts0 (.methodLink RL 18 yX12_init) (List.mem_of_getElem? (i := 172) (by decide +kernel))
  have cl19 := hts0 (.classLink RL 19 RX13) (List.mem_of_getElem? (i := 1524) (by decide +kernel))
  have isX13 := hts0 (.instantiable RX13 42) (List.mem_of_getElem? (i := 1522) (by decide +kernel))
  have iniX13 := hts0 (.initialized RX13) (List.mem_of_getElem? (i := 154) (by decide +kernel))
  have imX13_init := hts0 (.instanceMethod yX13_init) (List.mem_of_getElem? (i := 1526) (by decide +kernel))
  have ml21 := hts0 (.methodLink RL 21 yX13_init) (List.mem_of_getElem? (i := 1525) (by decide +kernel))
  have acJ := hts0 (.arrayClass .long) (List.mem_of_getElem? (i := 229) (by decide +kernel))
  refine va_new (ci := 9) (fs := [.null, .null, .null, .null, .null, .null, .null, .null, .null, .null, .null, .null, .null, .int 0, .int 0, .int 0]) (C := RX12) (T := TX12) (N := 16) hx hb hts gl_X12 tyX12 tyX12_ok hown cl8 isX12 iniX12 hK hP hD hS hA rfl (fun j hj => by match j, hj with | 0, _ => rfl | 1, _ => rfl | 2, _ => rfl | 3, _ => rfl | 4, _ => rfl | 5, _ => rfl | 6, _ => rfl | 7, _ => rfl | 8, _ => rfl | 9, _ => rfl | 10, _ => rfl | 11, _ => rfl | 12, _ => rfl | 13, _ => rfl | 14, _ => rfl | 15, _ => rfl | n + 16, h => exact absurd h (by omega)) (by decide) (by decide) dL_law_0 (fun qc H hP hD hS => ?_)
  have hP : va_P D vwCl (([(qc, .inr (9, [.null, .null, .null, .null, .null, .null, .null, .null, .null, .null, .null, .null, .null, .int 0, .int 0, .int 0]))] : va_W) ++ []) H := hP
  have hD : va_D A (([(qc, .inr (9, [.null, .null, .null, .null, .null, .null, .null, .null, .null, .null, .null, .null, .null, .int 0, .int 0, .int 0]))] : va_W) ++ []) := hD
  refine W.widen (k := 1) (n := 16) (by decide) (by decide) ?_
  refine lv_dup hx hb dL_law_3 rfl ?_
  refine f_lawX (w1 := [(qc, .inr (9, [.null, .null, .null, .null, .null, .null, .null, .null, .null, .null, .null, .null, .null, .int 0, .int 0, .int 0]))]) (w2 := []) (va_runI (As := []) (rest := [.ref qc]) ⟨hx, hb, hml, hown, hts⟩ (c_RiverVows_init l D k _ qc z) (cwI 0 hts good_RiverVows_init rfl rfl rfl iniX12 ml18 imX12_init rfl (by decide +kernel) ⟨Nat.le_of_ble_eq_true rfl, Nat.le_of_ble_eq_true rfl⟩) (pS1 hK hN hP hD) rfl rfl hl.1 rfl (lv_room (Nat.le_of_ble_eq_true rfl)) dL_law_4 ⟨by decide, by decide⟩) hP hD hS hA (fun u H locs hu hP hD hS => ?_)
  obtain ⟨qC, aC⟩ := u
  obtain ⟨hq, hqz, hRC, h16⟩ := hu
  have hq : qC 0 = qc := hq
  subst hq
  have hqz : ∀ i, 238 ≤ i → qC i = z i := hqz
  have hRC : RC 0 aC := hRC
  have h16 : aC 1 6 = 0 := h16
  have hP : va_P D vwCl (f_w shC k qC (cH aC (fun _ _ => 0) cv0)) H := by have h9 := hP; rw [List.append_nil] at h9; exact h9
  have hD : va_D A (f_w shC k qC (cH aC (fun _ _ => 0) cv0)) := by have h9 := hD; rw [List.append_nil] at h9; exact h9
  obtain ⟨hC, hhC⟩ : ∃ hC, hC = cH aC (fun _ _ => 0) cv0 := ⟨_, rfl⟩
  obtain ⟨wC, hwC⟩ : ∃ wC, wC = f_w shC k qC hC := ⟨_, rfl⟩
  rw [← hhC, ← hwC] at hP hD
  refine W.widen (k := 238) (n := 11611) (by decide) (by decide) ?_
  refine lv_astore_n (lv' := [(1, .ref (qC 0)), (0, .ref b)]) hx hb dL_law_7 rfl hl (by decide) rfl (fun ls hl => ?_)
  refine va_new (ci := 10) (fs := [.int 0, .null, .int 0, .int 0, .null, .null, .null, .int 0, .int 0, .null, .null, .null, .null, .int 0, .null, .null, .int 0, .int 0, .null, .null, .null, .null, .null, .int 0, .null, .int 0, .null, .int 0, .int 0, .int 0, .int 0, .null, .null, .null, .null, .null, .int 0, .int 0, .null, .null, .null, .long 0]) (C := RX13) (T := TX13) (N := 42) hx hb hts (fun w h => List.mem_cons_of_mem _ (List.mem_cons_of_mem _ (gl_X13 w h))) tyX13 tyX13_ok hown cl19 isX13 iniX13 hK hP hD hS hA rfl (fun j hj => by match j, hj with | 0, _ => rfl | 1, _ => rfl | 2, _ => rfl | 3, _ => rfl | 4, _ => rfl | 5, _ => rfl | 6, _ => rfl | 7, _ => rfl | 8, _ => rfl | 9, _ => rfl | 10, _ => rfl | 11, _ => rfl | 12, _ => rfl | 13, _ => rfl | 14, _ => rfl | 15, _ => rfl | 16, _ => rfl | 17, _ => rfl | 18, _ => rfl | 19, _ => rfl | 20, _ => rfl | 21, _ => rfl | 22, _ => rfl | 23, _ => rfl | 24, _ => rfl | 25, _ => rfl | 26, _ => rfl | 27, _ => rfl | 28, _ => rfl | 29, _ => rfl | 30, _ => rfl | 31, _ => rfl | 32, _ => rfl | 33, _ => rfl | 34, _ => rfl | 35, _ => rfl | 36, _ => rfl | 37, _ => rfl | 38, _ => rfl | 39, _ => rfl | 40, _ => rfl | 41, _ => rfl | n + 42, h => exact absurd h (by omega)) (by decide) (by decide) dL_law_8 (fun qm H hP hD hS => ?_)
  obtain ⟨hP, hD⟩ := f_sw (w2 := [(qm, .inr (10, [.int 0, .null, .int 0, .int 0, .null, .null, .null, .int 0, .int 0, .null, .null, .null, .null, .int 0, .null, .null, .int 0, .int 0, .null, .null, .null, .null, .null, .int 0, .null, .int 0, .null, .int 0, .int 0, .int 0, .int 0, .null, .null, .null, .null, .null, .int 0, .int 0, .null, .null, .null, .long 0]))]) hP hD
  refine W.widen (k := 239) (n := 11653) (by decide) (by decide) ?_
  refine lv_dup hx hb dL_law_11 rfl ?_
  refine f_lawX (w1 := [(qm, .inr (10, [.int 0, .null, .int 0, .int 0, .null, .null, .null, .int 0, .int 0, .null, .null, .null, .null, .int 0, .null, .null, .int 0, .int 0, .null, .null, .null, .null, .null, .int 0, .null, .int 0, .null, .int 0, .int 0, .int 0, .int 0, .null, .null, .null, .null, .null, .int 0, .int 0, .null, .null, .null, .long 0]))]) (w2 := wC) (va_runI (As := []) (rest := [.ref qm]) ⟨hx, hb, hml, hown, hts⟩ (c_Model_init l D k _ qm z) (cwI 0 hts good_Model_init rfl rfl rfl iniX13 ml21 imX13_init rfl (by decide +kernel) ⟨Nat.le_of_ble_eq_true rfl, Nat.le_of_ble_eq_true rfl⟩) (mi_pre hK hNz hP hD hS hA) rfl rfl hl.1 rfl (lv_room (Nat.le_of_ble_eq_true rfl)) dL_law_12 ⟨by decide, by decide⟩) hP hD hS hA (fun u H locs hu hP hD hS => ?_)
  obtain ⟨qM, aM, bM⟩ := u
  obtain ⟨hq, hqz2, hIM, h2⟩ := hu
  have hq : qM 0 = qm := hq
  subst hq
  have hqz2 : ∀ i, 26 ≤ i → qM i = z i := hqz2
  have hIM : IM 0 aM := hIM
  have h2 : aM 0 2 = 0 := h2
  have hP : va_P D vwCl (f_w shM k qM (mH aM bM) ++ wC) H := hP
  have hD : va_D A (f_w shM k qM (mH aM bM) ++ wC) := hD
  obtain ⟨hP, hD⟩ := f_sw hP hD
  obtain ⟨hM, hhM⟩ : ∃ hM, hM = mH aM bM := ⟨_, rfl⟩
  obtain ⟨wM, hwM⟩ : ∃ wM, wM = f_w shM k qM hM := ⟨_, rfl⟩
  rw [← hhM, ← hwM] at hP hD
  refine W.widen (k := 264) (n := 37829) (by decide) (by decide) ?_
  refine lv_astore_n (lv' := [(2, .ref (qM 0)), (1, .ref (qC 0)), (0, .ref b)]) hx hb dL_law_15 rfl hl (by decide) rfl (fun ls hl => ?_)
  refine lv_iconst (v := 1) hx hb dL_law_16 (by decide) ?_
  refine p_newa (atype := .long) (ty := .long) (N' := 1) (a0 := (1, .inr (.inl (fun _ => 0)))) hx hb acJ rfl hK hP hD hS hA 2 rfl (fun _ => rfl) (by decide +kernel) (by decide +kernel) (by decide +kernel) (Nat.le_of_ble_eq_true rfl) (Nat.le_of_ble_eq_true rfl) dL_law_17 (fun out H hP hD hS => ?_)
  have hP : va_P D vwCl (wC ++ wM ++ lw_o k out (fun _ => 0)) H := hP
  have hD : va_D A (wC ++ wM ++ lw_o k out (fun _ => 0)) := hD
  refine W.widen (k := 265) (n := 37830) (by decide) (by decide) ?_
  refine lv_astore_n (lv' := [(3, .ref out), (2, .ref (qM 0)), (1, .ref (qC 0)), (0, .ref b)]) hx hb dL_law_19 rfl hl (by decide) rfl (fun ls hl => ?_)
  refine lv_iconst (v := 0) hx hb dL_law_20 (by decide) ?_
  refine lv_istore (lv' := [(4, .int 0), (3, .ref out), (2, .ref (qM 0)), (1, .ref (qC 0)), (0, .ref b)]) hx hb dL_law_21 hl (by decide) rfl (fun ls hl => ?_)
  rw [List.append_assoc, hwC, hwM, hhC, hhM] at hP hD
  have I : lw_In p s m meth c b L xs A D k qC qM := ⟨C0, hts, hK, fN.co (fun i hi => hqz i (by omega)) hNz, fN.co (fun i hi => hqz2 i (by omega)) hNz, hA, hAf⟩
  exact lw_loop I hL hst hX1 hX2 512 0 265 37830 aC (fun _ _ => 0) cv0 aM bM (fun _ => 0) H _ ls (by omega) (by omega) (by omega) ⟨⟨hRC, VC0⟩, hIM, by rw [h16, h2]⟩ ⟨hP, hD, hS⟩ hl
