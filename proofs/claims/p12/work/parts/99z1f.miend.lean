theorem gi_0 : (.methodLink RX13 18 objectInit : Cond) ∈ gT := gT_of (List.mem_of_getElem? (i := 1528) (by decide +kernel)) rfl
theorem gi_1 : (.instanceMethod objectInit : Cond) ∈ gT := gT_of (List.mem_of_getElem? (i := 176) (by decide +kernel)) rfl
theorem gi_2 : (.code objectInit ⟨#[0xb1]⟩ 1 none : Cond) ∈ gT := gT_of (List.mem_of_getElem? (i := 177) (by decide +kernel)) rfl
theorem gi_3 : (.arrayClass .int : Cond) ∈ gT := gT_of (List.mem_of_getElem? (i := 228) (by decide +kernel)) rfl
theorem gi_4 : (.fieldLink RX13 14 "RiverVowsModel" "tape" "[I" : Cond) ∈ gT := gT_of (List.mem_of_getElem? (i := 1573) (by decide +kernel)) rfl
theorem gi_5 : (.fieldLink RX13 24 "RiverVowsModel" "sort" "[I" : Cond) ∈ gT := gT_of (List.mem_of_getElem? (i := 1576) (by decide +kernel)) rfl
theorem gi_6 : (.fieldLink RX13 27 "RiverVowsModel" "place" "[I" : Cond) ∈ gT := gT_of (List.mem_of_getElem? (i := 1577) (by decide +kernel)) rfl
theorem gi_7 : (.arrayClass .long : Cond) ∈ gT := gT_of (List.mem_of_getElem? (i := 229) (by decide +kernel)) rfl
theorem gi_8 : (.fieldLink RX13 30 "RiverVowsModel" "value" "[J" : Cond) ∈ gT := gT_of (List.mem_of_getElem? (i := 1578) (by decide +kernel)) rfl
theorem gi_9 : (.constantLong RX13 34 34221096 : Cond) ∈ gT := gT_of (List.mem_of_getElem? (i := 1529) (by decide +kernel)) rfl
theorem gi_10 : (.constantLong RX13 36 329128 : Cond) ∈ gT := gT_of (List.mem_of_getElem? (i := 1530) (by decide +kernel)) rfl
theorem gi_11 : (.constantLong RX13 38 755 : Cond) ∈ gT := gT_of (List.mem_of_getElem? (i := 1531) (by decide +kernel)) rfl
theorem gi_12 : (.constantLong RX13 40 30595897 : Cond) ∈ gT := gT_of (List.mem_of_getElem? (i := 1532) (by decide +kernel)) rfl
theorem gi_13 : (.constantLong RX13 42 43183939 : Cond) ∈ gT := gT_of (List.mem_of_getElem? (i := 1533) (by decide +kernel)) rfl
theorem gi_14 : (.constantLong RX13 44 671266 : Cond) ∈ gT := gT_of (List.mem_of_getElem? (i := 1534) (by decide +kernel)) rfl
theorem gi_15 : (.constantLong RX13 46 1034460 : Cond) ∈ gT := gT_of (List.mem_of_getElem? (i := 1535) (by decide +kernel)) rfl
theorem gi_16 : (.constantLong RX13 48 57 : Cond) ∈ gT := gT_of (List.mem_of_getElem? (i := 1536) (by decide +kernel)) rfl
theorem gi_17 : (.constantLong RX13 50 561 : Cond) ∈ gT := gT_of (List.mem_of_getElem? (i := 1537) (by decide +kernel)) rfl
theorem gi_18 : (.constantLong RX13 52 33804981 : Cond) ∈ gT := gT_of (List.mem_of_getElem? (i := 1538) (by decide +kernel)) rfl
theorem gi_19 : (.constantLong RX13 54 37900887 : Cond) ∈ gT := gT_of (List.mem_of_getElem? (i := 1539) (by decide +kernel)) rfl
theorem gi_20 : (.constantLong RX13 56 15406 : Cond) ∈ gT := gT_of (List.mem_of_getElem? (i := 1540) (by decide +kernel)) rfl
theorem gi_21 : (.constantLong RX13 58 36643333 : Cond) ∈ gT := gT_of (List.mem_of_getElem? (i := 1541) (by decide +kernel)) rfl
theorem gi_22 : (.constantLong RX13 60 99 : Cond) ∈ gT := gT_of (List.mem_of_getElem? (i := 1542) (by decide +kernel)) rfl
theorem gi_23 : (.constantLong RX13 62 8288617 : Cond) ∈ gT := gT_of (List.mem_of_getElem? (i := 1543) (by decide +kernel)) rfl
theorem gi_24 : (.constantLong RX13 64 975192 : Cond) ∈ gT := gT_of (List.mem_of_getElem? (i := 1544) (by decide +kernel)) rfl
theorem gi_25 : (.constantLong RX13 66 31676 : Cond) ∈ gT := gT_of (List.mem_of_getElem? (i := 1545) (by decide +kernel)) rfl
theorem gi_26 : (.constantLong RX13 68 812503 : Cond) ∈ gT := gT_of (List.mem_of_getElem? (i := 1546) (by decide +kernel)) rfl
theorem gi_27 : (.constantLong RX13 70 1326983221 : Cond) ∈ gT := gT_of (List.mem_of_getElem? (i := 1547) (by decide +kernel)) rfl
theorem gi_28 : (.constantLong RX13 72 412420 : Cond) ∈ gT := gT_of (List.mem_of_getElem? (i := 1548) (by decide +kernel)) rfl
theorem gi_29 : (.constantLong RX13 74 4681177 : Cond) ∈ gT := gT_of (List.mem_of_getElem? (i := 1549) (by decide +kernel)) rfl
theorem gi_30 : (.constantLong RX13 76 30919646 : Cond) ∈ gT := gT_of (List.mem_of_getElem? (i := 1550) (by decide +kernel)) rfl
theorem gi_31 : (.constantLong RX13 78 6237219 : Cond) ∈ gT := gT_of (List.mem_of_getElem? (i := 1551) (by decide +kernel)) rfl
theorem gi_32 : (.constantLong RX13 80 964240 : Cond) ∈ gT := gT_of (List.mem_of_getElem? (i := 1552) (by decide +kernel)) rfl
theorem gi_33 : (.constantLong RX13 82 19741 : Cond) ∈ gT := gT_of (List.mem_of_getElem? (i := 1553) (by decide +kernel)) rfl
theorem gi_34 : (.constantLong RX13 84 1891 : Cond) ∈ gT := gT_of (List.mem_of_getElem? (i := 1554) (by decide +kernel)) rfl
theorem gi_35 : (.constantLong RX13 86 573 : Cond) ∈ gT := gT_of (List.mem_of_getElem? (i := 1555) (by decide +kernel)) rfl
theorem gi_36 : (.constantLong RX13 88 320924 : Cond) ∈ gT := gT_of (List.mem_of_getElem? (i := 1556) (by decide +kernel)) rfl
theorem gi_37 : (.constantLong RX13 90 305743 : Cond) ∈ gT := gT_of (List.mem_of_getElem? (i := 1557) (by decide +kernel)) rfl
theorem gi_38 : (.constantLong RX13 92 716042 : Cond) ∈ gT := gT_of (List.mem_of_getElem? (i := 1558) (by decide +kernel)) rfl
theorem gi_39 : (.constantLong RX13 94 5816 : Cond) ∈ gT := gT_of (List.mem_of_getElem? (i := 1559) (by decide +kernel)) rfl
theorem gi_40 : (.fieldLink RX13 96 "RiverVowsModel" "words" "[J" : Cond) ∈ gT := gT_of (List.mem_of_getElem? (i := 1581) (by decide +kernel)) rfl
theorem gi_41 : (.fieldLink RX13 99 "RiverVowsModel" "lands" "[I" : Cond) ∈ gT := gT_of (List.mem_of_getElem? (i := 1582) (by decide +kernel)) rfl
theorem gi_42 : (.fieldLink RX13 102 "RiverVowsModel" "op" "[I" : Cond) ∈ gT := gT_of (List.mem_of_getElem? (i := 1583) (by decide +kernel)) rfl
theorem gi_43 : (.fieldLink RX13 105 "RiverVowsModel" "arg" "[I" : Cond) ∈ gT := gT_of (List.mem_of_getElem? (i := 1584) (by decide +kernel)) rfl
theorem gi_44 : (.fieldLink RX13 108 "RiverVowsModel" "names" "[J" : Cond) ∈ gT := gT_of (List.mem_of_getElem? (i := 1586) (by decide +kernel)) rfl
theorem gi_45 : (.fieldLink RX13 111 "RiverVowsModel" "readNames" "[J" : Cond) ∈ gT := gT_of (List.mem_of_getElem? (i := 1587) (by decide +kernel)) rfl
theorem gi_46 : (.fieldLink RX13 114 "RiverVowsModel" "lines" "[I" : Cond) ∈ gT := gT_of (List.mem_of_getElem? (i := 1590) (by decide +kernel)) rfl
theorem gi_47 : (.fieldLink RX13 117 "RiverVowsModel" "readWants" "[I" : Cond) ∈ gT := gT_of (List.mem_of_getElem? (i := 1591) (by decide +kernel)) rfl
theorem gi_48 : (.fieldLink RX13 120 "RiverVowsModel" "facts" "[I" : Cond) ∈ gT := gT_of (List.mem_of_getElem? (i := 1592) (by decide +kernel)) rfl
theorem gi_49 : (.fieldLink RX13 123 "RiverVowsModel" "pile" "[I" : Cond) ∈ gT := gT_of (List.mem_of_getElem? (i := 1593) (by decide +kernel)) rfl
theorem gi_50 : (.fieldLink RX13 126 "RiverVowsModel" "state" "[I" : Cond) ∈ gT := gT_of (List.mem_of_getElem? (i := 1594) (by decide +kernel)) rfl
theorem gi_51 : (.arrayClass .boolean : Cond) ∈ gT := gT_of (List.mem_of_getElem? (i := 1699) (by decide +kernel)) rfl
theorem gi_52 : (.fieldLink RX13 129 "RiverVowsModel" "isMarked" "[Z" : Cond) ∈ gT := gT_of (List.mem_of_getElem? (i := 1596) (by decide +kernel)) rfl
theorem gi_53 : (.fieldLink RX13 133 "RiverVowsModel" "far" "[I" : Cond) ∈ gT := gT_of (List.mem_of_getElem? (i := 1598) (by decide +kernel)) rfl
theorem gi_54 : (.fieldLink RX13 136 "RiverVowsModel" "bestRow" "[I" : Cond) ∈ gT := gT_of (List.mem_of_getElem? (i := 1603) (by decide +kernel)) rfl
theorem gi_55 : (.fieldLink RX13 139 "RiverVowsModel" "inAll" "[I" : Cond) ∈ gT := gT_of (List.mem_of_getElem? (i := 1604) (by decide +kernel)) rfl
theorem gi_56 : (.fieldLink RX13 142 "RiverVowsModel" "counts" "[I" : Cond) ∈ gT := gT_of (List.mem_of_getElem? (i := 1605) (by decide +kernel)) rfl
theorem gi_57 : (.fieldLink RX13 145 "RiverVowsModel" "chain" "[I" : Cond) ∈ gT := gT_of (List.mem_of_getElem? (i := 1606) (by decide +kernel)) rfl
theorem gi_58 : (.fieldLink RX13 148 "RiverVowsModel" "bestChain" "[I" : Cond) ∈ gT := gT_of (List.mem_of_getElem? (i := 1607) (by decide +kernel)) rfl
theorem gi_59 : (.fieldLink RX13 151 "RiverVowsModel" "shares" "[I" : Cond) ∈ gT := gT_of (List.mem_of_getElem? (i := 1610) (by decide +kernel)) rfl
theorem gi_60 : (.fieldLink RX13 154 "RiverVowsModel" "rests" "[I" : Cond) ∈ gT := gT_of (List.mem_of_getElem? (i := 1611) (by decide +kernel)) rfl
theorem gi_61 : (.fieldLink RX13 157 "RiverVowsModel" "wins" "[Z" : Cond) ∈ gT := gT_of (List.mem_of_getElem? (i := 1612) (by decide +kernel)) rfl
theorem gi_62 : (.methodLink RX13 160 yX13_standsAsAlways : Cond) ∈ gT := gT_of (List.mem_of_getElem? (i := 1560) (by decide +kernel)) rfl
theorem gi_63 : (.instanceMethod yX13_standsAsAlways : Cond) ∈ gT := gT_of (List.mem_of_getElem? (i := 1562) (by decide +kernel)) rfl
theorem gi_64 : (.selects RX13 yX13_standsAsAlways yX13_standsAsAlways : Cond) ∈ gT := gT_of (List.mem_of_getElem? (i := 73) (by decide +kernel)) rfl
theorem gi_65 : (.initialized RX13 : Cond) ∈ gT := gT_of (List.mem_of_getElem? (i := 154) (by decide +kernel)) rfl
theorem gi_66 : (.code yX13_standsAsAlways cX13_standsAsAlways 3 none : Cond) ∈ gT := gT_of (List.mem_of_getElem? (i := 1563) (by decide +kernel)) rfl
theorem gi_67 : (.methodLink RX13 164 yX13_begins : Cond) ∈ gT := gT_of (List.mem_of_getElem? (i := 1564) (by decide +kernel)) rfl
theorem gi_68 : (.instanceMethod yX13_begins : Cond) ∈ gT := gT_of (List.mem_of_getElem? (i := 1566) (by decide +kernel)) rfl
theorem gi_69 : (.selects RX13 yX13_begins yX13_begins : Cond) ∈ gT := gT_of (List.mem_of_getElem? (i := 74) (by decide +kernel)) rfl
theorem gi_70 : (.code yX13_begins cX13_begins 2 none : Cond) ∈ gT := gT_of (List.mem_of_getElem? (i := 1567) (by decide +kernel)) rfl
def mwL : List Int64 := [34221096, 329128, 755, 30595897, 43183939, 671266, 1034460, 57, 561, 33804981, 37900887, 15406, 36643333, 99, 8288617, 975192, 31676, 812503, 1326983221, 412420, 4681177, 30919646, 6237219, 964240, 19741, 1891, 573, 320924, 305743, 716042, 5816]
theorem p_mw {f : Nat → Int64} {i n : Nat} {x : Int64} (hi : i = n) (h : ∀ j : Nat, j < n → f j = mwL.getD j 0) (hx : x = mwL.getD n 0) : ∀ j : Nat, j < n + 1 → vp_updL f i x j = mwL.getD j 0 := fun j hj => by
  subst hi
  by_cases e : j = i
  · subst e
    rw [← hx]
    simp [vp_updL]
  · have e1 : vp_updL f i x j = f j := by simp [vp_updL, e]
    rw [e1]
    exact h j (by omega)
theorem mw_wd : ∀ w, w < 31 → wMi.getD w 0 < 31 ∧ mwL.getD (wMi.getD w 0) 0 = wMd.getD w 0 := by decide +kernel
def miFL (k : Nat → ClassId) (qf : Nat → Nat) (w : Nat → Int64) : va_W := [((qf 0), .inr (10, [.int 0, .ref (qf 1), .int 0, .int 0, .ref (qf 2), .ref (qf 3), .ref (qf 4), .int 0, .int 0, .ref (qf 5), .ref (qf 6), .ref (qf 7), .ref (qf 8), .int 0, .ref (qf 9), .ref (qf 10), .int 0, .int 0, .ref (qf 11), .ref (qf 12), .ref (qf 13), .ref (qf 14), .ref (qf 15), .int 0, .ref (qf 16), .int 0, .ref (qf 17), .int 0, .int 0, .int 0, .int 0, .ref (qf 18), .ref (qf 19), .ref (qf 20), .ref (qf 21), .ref (qf 22), .int 0, .int 0, .ref (qf 23), .ref (qf 24), .ref (qf 25), .long 0])), ((qf 1), .inl (k 1, 1000, .inl (fun _ => 0))), ((qf 2), .inl (k 1, 1002, .inl (fun _ => 0))), ((qf 3), .inl (k 1, 1002, .inl (fun _ => 0))), ((qf 4), .inl (k 2, 1002, .inr (.inl (fun _ => 0)))), ((qf 5), .inl (k 2, 31, .inr (.inl w))), ((qf 6), .inl (k 1, 220, .inl (fun _ => 0))), ((qf 7), .inl (k 1, 2200, .inl (fun _ => 0))), ((qf 8), .inl (k 1, 2200, .inl (fun _ => 0))), ((qf 9), .inl (k 2, 6, .inr (.inl (fun _ => 0)))), ((qf 10), .inl (k 2, 6, .inr (.inl (fun _ => 0)))), ((qf 11), .inl (k 1, 160, .inl (fun _ => 0))), ((qf 12), .inl (k 1, 6, .inl (fun _ => 0))), ((qf 13), .inl (k 1, 4, .inl (fun _ => 0))), ((qf 14), .inl (k 1, 1100, .inl (fun _ => 0))), ((qf 15), .inl (k 1, 1320, .inl (fun _ => 0))), ((qf 16), .inl (k 3, 4, .inl (fun _ => 0))), ((qf 17), .inl (k 1, 36, .inl (fun _ => 0))), ((qf 18), .inl (k 1, 6, .inl (fun _ => 0))), ((qf 19), .inl (k 1, 6, .inl (fun _ => 0))), ((qf 20), .inl (k 1, 14400, .inl (fun _ => 0))), ((qf 21), .inl (k 1, 6, .inl (fun _ => 0))), ((qf 22), .inl (k 1, 6, .inl (fun _ => 0))), ((qf 23), .inl (k 1, 6, .inl (fun _ => 0))), ((qf 24), .inl (k 1, 6, .inl (fun _ => 0))), ((qf 25), .inl (k 3, 441, .inl (fun _ => 0)))]
def miQ (qf z : Nat → Nat) : Nat → Nat := fun i => if i < 26 then qf i else z i
def miB (w : Nat → Int64) : Nat → Nat → Int64 := fun i => if i = 5 then w else fun _ => 0
def miO (D : va_G) (k : Nat → ClassId) (qf z : Nat → Nat) (w : Nat → Int64) (i : Nat) : Prop := ∃ (x : f_X) (E : va_E), shM[i]? = some x ∧ (miFL k qf w)[i]? = some (miQ qf z i, E) ∧ ∀ H : Heap, va_at D vwCl (miQ qf z i, E) H → va_at D vwCl (miQ qf z i, f_e k (miQ qf z) (mH (fun _ _ => 0) (miB w)) i x) H
theorem mi_e_0 (q : Nat → Nat) (w : Nat → Int64) : f_f q (mH (fun _ _ => 0) (miB w)) 0 0 0 = .int 0 := rfl
theorem mi_e_1 (q : Nat → Nat) (w : Nat → Int64) : f_f q (mH (fun _ _ => 0) (miB w)) 0 1 2 = .ref (q 1) := rfl
theorem mi_e_2 (q : Nat → Nat) (w : Nat → Int64) : f_f q (mH (fun _ _ => 0) (miB w)) 0 2 0 = .int 0 := rfl
theorem mi_e_3 (q : Nat → Nat) (w : Nat → Int64) : f_f q (mH (fun _ _ => 0) (miB w)) 0 3 0 = .int 0 := rfl
theorem mi_e_4 (q : Nat → Nat) (w : Nat → Int64) : f_f q (mH (fun _ _ => 0) (miB w)) 0 4 2 = .ref (q 2) := rfl
theorem mi_e_5 (q : Nat → Nat) (w : Nat → Int64) : f_f q (mH (fun _ _ => 0) (miB w)) 0 5 2 = .ref (q 3) := rfl
theorem mi_e_6 (q : Nat → Nat) (w : Nat → Int64) : f_f q (mH (fun _ _ => 0) (miB w)) 0 6 2 = .ref (q 4) := rfl
theorem mi_e_7 (q : Nat → Nat) (w : Nat → Int64) : f_f q (mH (fun _ _ => 0) (miB w)) 0 7 0 = .int 0 := rfl
theorem mi_e_8 (q : Nat → Nat) (w : Nat → Int64) : f_f q (mH (fun _ _ => 0) (miB w)) 0 8 0 = .int 0 := rfl
theorem mi_e_9 (q : Nat → Nat) (w : Nat → Int64) : f_f q (mH (fun _ _ => 0) (miB w)) 0 9 2 = .ref (q 5) := rfl
theorem mi_e_10 (q : Nat → Nat) (w : Nat → Int64) : f_f q (mH (fun _ _ => 0) (miB w)) 0 10 2 = .ref (q 6) := rfl
theorem mi_e_11 (q : Nat → Nat) (w : Nat → Int64) : f_f q (mH (fun _ _ => 0) (miB w)) 0 11 2 = .ref (q 7) := rfl
theorem mi_e_12 (q : Nat → Nat) (w : Nat → Int64) : f_f q (mH (fun _ _ => 0) (miB w)) 0 12 2 = .ref (q 8) := rfl
theorem mi_e_13 (q : Nat → Nat) (w : Nat → Int64) : f_f q (mH (fun _ _ => 0) (miB w)) 0 13 0 = .int 0 := rfl
theorem mi_e_14 (q : Nat → Nat) (w : Nat → Int64) : f_f q (mH (fun _ _ => 0) (miB w)) 0 14 2 = .ref (q 9) := rfl
theorem mi_e_15 (q : Nat → Nat) (w : Nat → Int64) : f_f q (mH (fun _ _ => 0) (miB w)) 0 15 2 = .ref (q 10) := rfl
theorem mi_e_16 (q : Nat → Nat) (w : Nat → Int64) : f_f q (mH (fun _ _ => 0) (miB w)) 0 16 0 = .int 0 := rfl
theorem mi_e_17 (q : Nat → Nat) (w : Nat → Int64) : f_f q (mH (fun _ _ => 0) (miB w)) 0 17 0 = .int 0 := rfl
theorem mi_e_18 (q : Nat → Nat) (w : Nat → Int64) : f_f q (mH (fun _ _ => 0) (miB w)) 0 18 2 = .ref (q 11) := rfl
theorem mi_e_19 (q : Nat → Nat) (w : Nat → Int64) : f_f q (mH (fun _ _ => 0) (miB w)) 0 19 2 = .ref (q 12) := rfl
theorem mi_e_20 (q : Nat → Nat) (w : Nat → Int64) : f_f q (mH (fun _ _ => 0) (miB w)) 0 20 2 = .ref (q 13) := rfl
theorem mi_e_21 (q : Nat → Nat) (w : Nat → Int64) : f_f q (mH (fun _ _ => 0) (miB w)) 0 21 2 = .ref (q 14) := rfl
theorem mi_e_22 (q : Nat → Nat) (w : Nat → Int64) : f_f q (mH (fun _ _ => 0) (miB w)) 0 22 2 = .ref (q 15) := rfl
theorem mi_e_23 (q : Nat → Nat) (w : Nat → Int64) : f_f q (mH (fun _ _ => 0) (miB w)) 0 23 0 = .int 0 := rfl
theorem mi_e_24 (q : Nat → Nat) (w : Nat → Int64) : f_f q (mH (fun _ _ => 0) (miB w)) 0 24 2 = .ref (q 16) := rfl
theorem mi_e_25 (q : Nat → Nat) (w : Nat → Int64) : f_f q (mH (fun _ _ => 0) (miB w)) 0 25 0 = .int 0 := rfl
theorem mi_e_26 (q : Nat → Nat) (w : Nat → Int64) : f_f q (mH (fun _ _ => 0) (miB w)) 0 26 2 = .ref (q 17) := rfl
theorem mi_e_27 (q : Nat → Nat) (w : Nat → Int64) : f_f q (mH (fun _ _ => 0) (miB w)) 0 27 0 = .int 0 := rfl
theorem mi_e_28 (q : Nat → Nat) (w : Nat → Int64) : f_f q (mH (fun _ _ => 0) (miB w)) 0 28 0 = .int 0 := rfl
theorem mi_e_29 (q : Nat → Nat) (w : Nat → Int64) : f_f q (mH (fun _ _ => 0) (miB w)) 0 29 0 = .int 0 := rfl
theorem mi_e_30 (q : Nat → Nat) (w : Nat → Int64) : f_f q (mH (fun _ _ => 0) (miB w)) 0 30 0 = .int 0 := rfl
theorem mi_e_31 (q : Nat → Nat) (w : Nat → Int64) : f_f q (mH (fun _ _ => 0) (miB w)) 0 31 2 = .ref (q 18) := rfl
theorem mi_e_32 (q : Nat → Nat) (w : Nat → Int64) : f_f q (mH (fun _ _ => 0) (miB w)) 0 32 2 = .ref (q 19) := rfl
theorem mi_e_33 (q : Nat → Nat) (w : Nat → Int64) : f_f q (mH (fun _ _ => 0) (miB w)) 0 33 2 = .ref (q 20) := rfl
theorem mi_e_34 (q : Nat → Nat) (w : Nat → Int64) : f_f q (mH (fun _ _ => 0) (miB w)) 0 34 2 = .ref (q 21) := rfl
theorem mi_e_35 (q : Nat → Nat) (w : Nat → Int64) : f_f q (mH (fun _ _ => 0) (miB w)) 0 35 2 = .ref (q 22) := rfl
theorem mi_e_36 (q : Nat → Nat) (w : Nat → Int64) : f_f q (mH (fun _ _ => 0) (miB w)) 0 36 0 = .int 0 := rfl
theorem mi_e_37 (q : Nat → Nat) (w : Nat → Int64) : f_f q (mH (fun _ _ => 0) (miB w)) 0 37 0 = .int 0 := rfl
theorem mi_e_38 (q : Nat → Nat) (w : Nat → Int64) : f_f q (mH (fun _ _ => 0) (miB w)) 0 38 2 = .ref (q 23) := rfl
theorem mi_e_39 (q : Nat → Nat) (w : Nat → Int64) : f_f q (mH (fun _ _ => 0) (miB w)) 0 39 2 = .ref (q 24) := rfl
theorem mi_e_40 (q : Nat → Nat) (w : Nat → Int64) : f_f q (mH (fun _ _ => 0) (miB w)) 0 40 2 = .ref (q 25) := rfl
theorem mi_e_41 (q : Nat → Nat) (w : Nat → Int64) : f_f q (mH (fun _ _ => 0) (miB w)) 0 41 1 = .long 0 := rfl
set_option maxRecDepth 4000 in
theorem mi_fl (k : Nat → ClassId) (q : Nat → Nat) (w : Nat → Int64) : f_e k q (mH (fun _ _ => 0) (miB w)) 0 (.inr (10, [0, 2, 0, 0, 2, 2, 2, 0, 0, 2, 2, 2, 2, 0, 2, 2, 0, 0, 2, 2, 2, 2, 2, 0, 2, 0, 2, 0, 0, 0, 0, 2, 2, 2, 2, 2, 0, 0, 2, 2, 2, 1])) = .inr (10, [.int 0, .ref (q 1), .int 0, .int 0, .ref (q 2), .ref (q 3), .ref (q 4), .int 0, .int 0, .ref (q 5), .ref (q 6), .ref (q 7), .ref (q 8), .int 0, .ref (q 9), .ref (q 10), .int 0, .int 0, .ref (q 11), .ref (q 12), .ref (q 13), .ref (q 14), .ref (q 15), .int 0, .ref (q 16), .int 0, .ref (q 17), .int 0, .int 0, .int 0, .int 0, .ref (q 18), .ref (q 19), .ref (q 20), .ref (q 21), .ref (q 22), .int 0, .int 0, .ref (q 23), .ref (q 24), .ref (q 25), .long 0]) := by
  show (.inr (10, ([0, 2, 0, 0, 2, 2, 2, 0, 0, 2, 2, 2, 2, 0, 2, 2, 0, 0, 2, 2, 2, 2, 2, 0, 2, 0, 2, 0, 0, 0, 0, 2, 2, 2, 2, 2, 0, 0, 2, 2, 2, 1] : List Nat).mapIdx (fun j kd => f_f q (mH (fun _ _ => 0) (miB w)) 0 j kd)) : va_E) = _
  simp only [List.mapIdx_cons, List.mapIdx_nil, Nat.zero_add, Nat.reduceAdd, mi_e_0, mi_e_1, mi_e_2, mi_e_3, mi_e_4, mi_e_5, mi_e_6, mi_e_7, mi_e_8, mi_e_9, mi_e_10, mi_e_11, mi_e_12, mi_e_13, mi_e_14, mi_e_15, mi_e_16, mi_e_17, mi_e_18, mi_e_19, mi_e_20, mi_e_21, mi_e_22, mi_e_23, mi_e_24, mi_e_25, mi_e_26, mi_e_27, mi_e_28, mi_e_29, mi_e_30, mi_e_31, mi_e_32, mi_e_33, mi_e_34, mi_e_35, mi_e_36, mi_e_37, mi_e_38, mi_e_39, mi_e_40, mi_e_41]
theorem mi_al_0 (D : va_G) (k : Nat → ClassId) (qf z : Nat → Nat) (w : Nat → Int64) : miO D k qf z w 0 := ⟨_, _, rfl, rfl, fun H h => by
  show va_at D vwCl (miQ qf z 0, f_e k (miQ qf z) (mH (fun _ _ => 0) (miB w)) 0 (.inr (10, [0, 2, 0, 0, 2, 2, 2, 0, 0, 2, 2, 2, 2, 0, 2, 2, 0, 0, 2, 2, 2, 2, 2, 0, 2, 0, 2, 0, 0, 0, 0, 2, 2, 2, 2, 2, 0, 0, 2, 2, 2, 1]))) H
  rw [mi_fl]
  exact h⟩
theorem mi_al_1 (D : va_G) (k : Nat → ClassId) (qf z : Nat → Nat) (w : Nat → Int64) : miO D k qf z w 1 := ⟨_, _, rfl, rfl, fun _ h => h⟩
theorem mi_al_2 (D : va_G) (k : Nat → ClassId) (qf z : Nat → Nat) (w : Nat → Int64) : miO D k qf z w 2 := ⟨_, _, rfl, rfl, fun _ h => h⟩
theorem mi_al_3 (D : va_G) (k : Nat → ClassId) (qf z : Nat → Nat) (w : Nat → Int64) : miO D k qf z w 3 := ⟨_, _, rfl, rfl, fun _ h => h⟩
theorem mi_al_4 (D : va_G) (k : Nat → ClassId) (qf z : Nat → Nat) (w : Nat → Int64) : miO D k qf z w 4 := ⟨_, _, rfl, rfl, fun _ h => h⟩
theorem mi_al_5 (D : va_G) (k : Nat → ClassId) (qf z : Nat → Nat) (w : Nat → Int64) : miO D k qf z w 5 := ⟨_, _, rfl, rfl, fun _ h => h⟩
theorem mi_al_6 (D : va_G) (k : Nat → ClassId) (qf z : Nat → Nat) (w : Nat → Int64) : miO D k qf z w 6 := ⟨_, _, rfl, rfl, fun _ h => h⟩
theorem mi_al_7 (D : va_G) (k : Nat → ClassId) (qf z : Nat → Nat) (w : Nat → Int64) : miO D k qf z w 7 := ⟨_, _, rfl, rfl, fun _ h => h⟩
theorem mi_al_8 (D : va_G) (k : Nat → ClassId) (qf z : Nat → Nat) (w : Nat → Int64) : miO D k qf z w 8 := ⟨_, _, rfl, rfl, fun _ h => h⟩
theorem mi_al_9 (D : va_G) (k : Nat → ClassId) (qf z : Nat → Nat) (w : Nat → Int64) : miO D k qf z w 9 := ⟨_, _, rfl, rfl, fun _ h => h⟩
theorem mi_al_10 (D : va_G) (k : Nat → ClassId) (qf z : Nat → Nat) (w : Nat → Int64) : miO D k qf z w 10 := ⟨_, _, rfl, rfl, fun _ h => h⟩
theorem mi_al_11 (D : va_G) (k : Nat → ClassId) (qf z : Nat → Nat) (w : Nat → Int64) : miO D k qf z w 11 := ⟨_, _, rfl, rfl, fun _ h => h⟩
theorem mi_al_12 (D : va_G) (k : Nat → ClassId) (qf z : Nat → Nat) (w : Nat → Int64) : miO D k qf z w 12 := ⟨_, _, rfl, rfl, fun _ h => h⟩
theorem mi_al_13 (D : va_G) (k : Nat → ClassId) (qf z : Nat → Nat) (w : Nat → Int64) : miO D k qf z w 13 := ⟨_, _, rfl, rfl, fun _ h => h⟩
theorem mi_al_14 (D : va_G) (k : Nat → ClassId) (qf z : Nat → Nat) (w : Nat → Int64) : miO D k qf z w 14 := ⟨_, _, rfl, rfl, fun _ h => h⟩
theorem mi_al_15 (D : va_G) (k : Nat → ClassId) (qf z : Nat → Nat) (w : Nat → Int64) : miO D k qf z w 15 := ⟨_, _, rfl, rfl, fun _ h => h⟩
theorem mi_al_16 (D : va_G) (k : Nat → ClassId) (qf z : Nat → Nat) (w : Nat → Int64) : miO D k qf z w 16 := ⟨_, _, rfl, rfl, fun _ h => h⟩
theorem mi_al_17 (D : va_G) (k : Nat → ClassId) (qf z : Nat → Nat) (w : Nat → Int64) : miO D k qf z w 17 := ⟨_, _, rfl, rfl, fun _ h => h⟩
theorem mi_al_18 (D : va_G) (k : Nat → ClassId) (qf z : Nat → Nat) (w : Nat → Int64) : miO D k qf z w 18 := ⟨_, _, rfl, rfl, fun _ h => h⟩
theorem mi_al_19 (D : va_G) (k : Nat → ClassId) (qf z : Nat → Nat) (w : Nat → Int64) : miO D k qf z w 19 := ⟨_, _, rfl, rfl, fun _ h => h⟩
theorem mi_al_20 (D : va_G) (k : Nat → ClassId) (qf z : Nat → Nat) (w : Nat → Int64) : miO D k qf z w 20 := ⟨_, _, rfl, rfl, fun _ h => h⟩
theorem mi_al_21 (D : va_G) (k : Nat → ClassId) (qf z : Nat → Nat) (w : Nat → Int64) : miO D k qf z w 21 := ⟨_, _, rfl, rfl, fun _ h => h⟩
theorem mi_al_22 (D : va_G) (k : Nat → ClassId) (qf z : Nat → Nat) (w : Nat → Int64) : miO D k qf z w 22 := ⟨_, _, rfl, rfl, fun _ h => h⟩
theorem mi_al_23 (D : va_G) (k : Nat → ClassId) (qf z : Nat → Nat) (w : Nat → Int64) : miO D k qf z w 23 := ⟨_, _, rfl, rfl, fun _ h => h⟩
theorem mi_al_24 (D : va_G) (k : Nat → ClassId) (qf z : Nat → Nat) (w : Nat → Int64) : miO D k qf z w 24 := ⟨_, _, rfl, rfl, fun _ h => h⟩
theorem mi_al_25 (D : va_G) (k : Nat → ClassId) (qf z : Nat → Nat) (w : Nat → Int64) : miO D k qf z w 25 := ⟨_, _, rfl, rfl, fun _ h => h⟩
theorem mi_all (D : va_G) (k : Nat → ClassId) (qf z : Nat → Nat) (w : Nat → Int64) : ∀ i, i < 26 → miO D k qf z w i := fun i hi => by match i, hi with | 0, _ => exact mi_al_0 D k qf z w | 1, _ => exact mi_al_1 D k qf z w | 2, _ => exact mi_al_2 D k qf z w | 3, _ => exact mi_al_3 D k qf z w | 4, _ => exact mi_al_4 D k qf z w | 5, _ => exact mi_al_5 D k qf z w | 6, _ => exact mi_al_6 D k qf z w | 7, _ => exact mi_al_7 D k qf z w | 8, _ => exact mi_al_8 D k qf z w | 9, _ => exact mi_al_9 D k qf z w | 10, _ => exact mi_al_10 D k qf z w | 11, _ => exact mi_al_11 D k qf z w | 12, _ => exact mi_al_12 D k qf z w | 13, _ => exact mi_al_13 D k qf z w | 14, _ => exact mi_al_14 D k qf z w | 15, _ => exact mi_al_15 D k qf z w | 16, _ => exact mi_al_16 D k qf z w | 17, _ => exact mi_al_17 D k qf z w | 18, _ => exact mi_al_18 D k qf z w | 19, _ => exact mi_al_19 D k qf z w | 20, _ => exact mi_al_20 D k qf z w | 21, _ => exact mi_al_21 D k qf z w | 22, _ => exact mi_al_22 D k qf z w | 23, _ => exact mi_al_23 D k qf z w | 24, _ => exact mi_al_24 D k qf z w | 25, _ => exact mi_al_25 D k qf z w | n + 26, h => exact absurd h (by omega)
theorem mi_at (D : va_G) (k : Nat → ClassId) (qf z : Nat → Nat) (w : Nat → Int64) {i : Nat} {x : f_X} (hx : shM[i]? = some x) : ∃ E : va_E, (miFL k qf w)[i]? = some (miQ qf z i, E) ∧ ∀ H : Heap, va_at D vwCl (miQ qf z i, E) H → va_at D vwCl (miQ qf z i, f_e k (miQ qf z) (mH (fun _ _ => 0) (miB w)) i x) H := by
  have hi : i < 26 := (List.getElem?_eq_some_iff.mp hx).1
  obtain ⟨y, E, h2, h3, h4⟩ := mi_all D k qf z w i hi
  rw [hx] at h2
  cases h2
  exact ⟨E, h3, h4⟩
theorem mi_end {D : va_G} {k : Nat → ClassId} {qf z : Nat → Nat} {w : Nat → Int64} {A : Nat → Prop} {H : Heap} (hP : va_P D vwCl (miFL k qf w) H) (hD : va_D A (miFL k qf w)) : va_P D vwCl (f_w shM k (miQ qf z) (mH (fun _ _ => 0) (miB w))) H ∧ va_D A (f_w shM k (miQ qf z) (mH (fun _ _ => 0) (miB w))) := by
  refine ⟨fun i p hp => ?_, fun i j p r hp hr he => ?_, fun i p hp => ?_⟩
  · obtain ⟨x, hx, rfl⟩ := f_w_inv hp
    obtain ⟨E, h2, h3⟩ := mi_at D k qf z w hx
    exact h3 H (hP i _ h2)
  · obtain ⟨x, hx, rfl⟩ := f_w_inv hp
    obtain ⟨y, hy, rfl⟩ := f_w_inv hr
    obtain ⟨E, h2, -⟩ := mi_at D k qf z w hx
    obtain ⟨E', g2, -⟩ := mi_at D k qf z w hy
    exact hD.1 i j _ _ h2 g2 he
  · obtain ⟨x, hx, rfl⟩ := f_w_inv hp
    obtain ⟨E, h2, -⟩ := mi_at D k qf z w hx
    have h5 := hD.2 i _ h2
    exact h5
theorem mi_MW {f : Nat → Int64} (h : ∀ j : Nat, j < 31 → f j = mwL.getD j 0) : MW (miB f) := fun w hw => by
  obtain ⟨h1, h2⟩ := mw_wd w hw
  show f (wMi.getD w 0) = _
  rw [h _ h1, h2]
def pwM_init : List Cond := .code yX13_init cX13_init 1 none :: gT
theorem RM0 : RM 0 (fun _ _ => 0) := fun c j => by
  have e : ((fun _ _ => 0 : Nat → Nat → Int32) c j).toInt = 0 := rfl
  rw [e]
  unfold loM hiM laLo laHi stLo stHi
  constructor <;> (repeat' split) <;> omega
set_option maxRecDepth 20000 in
theorem mi_tail (l : Launch) {D : va_G} {k : Nat → ClassId} {z qm : Nat → Nat} {h0 : Nat} {b0 : Nat → Nat → Int64} {p : Program} {e : Env} {s : State} {m : MethodId} {below : List Frame} {meth : Method} {c : Code} {A : Nat → Prop} {Q : State → Prop} {H : Heap} {locs : List Loc} {ls : Array Slot} (hx : p.tables.exec = Jvm.exec) (hb : c.code = cX13_init) (hml : c.maxLocals = 1) (hown : s.vm.findClass RX13 = some m.cls) (hts : ∀ w ∈ pwM_init, w.before ([Value.ref h0] : List Value).toArray s = true) (hK : va_K D vwCl (pT k) s) (hNq : fN qm A s s.heap) (hA : ∀ q : Nat, s.heap.size ≤ q → A q) (hP : va_P D vwCl (f_w shM k qm (mH (fun _ _ => 0) b0)) H) (hD : va_D A (f_w shM k qm (mH (fun _ _ => 0) b0))) (hS : va_S A s.heap H locs) (hq0 : qm 0 = h0) (hqz : ∀ i, 26 ≤ i → qm i = z i)
    (hb0 : MW b0) (hret : ∀ (pc : Nat) (ls : Array Slot) (H : Heap) (locs : List Loc) (ce sl : Nat) (u : (Nat → Nat) × (Nat → Nat → Int32) × (Nat → Nat → Int64)), ce ≤ 25 → sl ≤ 26176 → decode cX13_init pc = .ok (.return_, 1) → (u.1 0 = h0 ∧ (∀ i, 26 ≤ i → u.1 i = z i) ∧ IM 0 u.2.1 ∧ (u.2.1 0 2 = 0 ∧ MW u.2.2 ∧ (∀ m, m < 4 → (u.2.1 16 m).toInt = 0) ∧ LRL (fun _ => 0) u.2.1)) → va_P D vwCl (f_w shM k u.1 (mH u.2.1 u.2.2)) H → va_D A (f_w shM k u.1 (mH u.2.1 u.2.2)) → va_S A s.heap H locs → W p l e ({ frames := 4, cells := 25, slots := 26176, locals := 400 } : Room) s m ([Value.ref h0] : List Value).toArray below meth c H locs ce sl Q (F0 m pc ls []))
    (hl : lv_has ls 1 [(0, .ref h0)]) : W p l e ({ frames := 4, cells := 25, slots := 26176, locals := 400 } : Room) s m ([Value.ref h0] : List Value).toArray below meth c H locs 25 26176 Q (F0 m 425 ls []) := by
  refine lv_aload_n hx hb dX13_init_425 rfl (lv_at hl 0 rfl) ?_
  refine lv_iconst (v := 0) hx hb dX13_init_426 (by decide) ?_
  refine f_callX (as := [.inl 0]) (cc := cX13_init) (nL := 1) (Ts := pwM_init) (own := RX13) (T := gT) ⟨hx, hb, hml, hown, hts⟩ hK hNq hA (mkM l) (ci := 10) rfl mtM_15 (f_call.pcd (s_standsAsAlways_1 (K := 0) (fun _ _ => 0) b0 0 RM0 (Or.inl rfl)) (fun d _ => y_standsAsAlways_0 (d := d) (fun _ _ => 0) b0 0 rfl)) rfl ⟨by decide, by decide, by decide +kernel⟩ (mi_good gi_62 gi_63 gi_64 gi_65 gi_66) ⟨by decide, by decide⟩ dX13_init_427 hl.1 (by rw [hq0]; rfl) ⟨by decide, by decide⟩ hP hD hS (fun r h' H locs hq hP hD hS => ?_)
  obtain ⟨⟨a1, e1, hR1, ⟨hF1, -, h5, h6⟩, rfl⟩, a9, e9, ⟨-, hz6⟩, -⟩ := hq
  obtain rfl := congrArg Prod.fst (e1.symm.trans e9)
  subst e1
  refine lv_aload_n hx hb dX13_init_430 rfl (lv_at hl 0 rfl) ?_
  refine f_callX (as := []) (cc := cX13_init) (nL := 1) (Ts := pwM_init) (own := RX13) (T := gT) ⟨hx, hb, hml, hown, hts⟩ hK hNq hA (mkM l) (ci := 10) rfl mtM_39 (s_begins_1 (K := 0) a1 b0 hR1) rfl ⟨by decide, by decide, by decide +kernel⟩ (mi_good gi_67 gi_68 gi_69 gi_65 gi_70) ⟨by decide, by decide⟩ dX13_init_431 hl.1 (by rw [hq0]; rfl) ⟨by decide, by decide⟩ hP hD hS (fun r h' H locs hq hP hD hS => ?_)
  obtain ⟨a2, rfl, hR2, ⟨hF2, -, ⟨hn0, hj⟩, hu0, hm0, hac⟩, rfl⟩ := hq
  have e5 : a2 6 5 = a1 6 5 := by rw [hF2 6 (by decide)]
  have e6 : a2 6 6 = a1 6 6 := by rw [hF2 6 (by decide)]
  have g5 : (a1 6 5).toInt = -1 := h5
  have g6 : (a1 6 6).toInt = -1 := h6
  have e2 : a2 0 2 = 0 := by rw [hj 2 (by decide), hF1 0 (by decide)]
  have hI : IM 0 a2 := ⟨hR2, ⟨hac, fun k hk => absurd hk (by rw [hu0]; omega), fun m9 hm h9 => absurd (hm0 m9 hm) h9⟩, fun i hi => Or.inl (by
    match i, hi with
    | 0, _ =>
      show (a2 6 5).toInt < 0
      rw [e5, g5]
      decide
    | 1, _ =>
      show (a2 6 6).toInt < 0
      rw [e6, g6]
      decide
    | n + 2, h => exact absurd h (by omega)), fun k hk => absurd hk (by rw [hn0]; omega)⟩
  exact hret _ _ _ _ _ _ (qm, a2, b0) (by decide) (by decide) dX13_init_434 ⟨hq0, hqz, hI, e2, hb0, hm0, fun j j1 j2 => by (show (a2 6 j).toInt = 0; rw [hF2 6 (by decide)]; exact hz6 j j1 j2)⟩ hP hD hS
