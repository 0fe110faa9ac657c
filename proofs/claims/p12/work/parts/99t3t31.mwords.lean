theorem gl_X13 : ∀ w ∈ u_ws RX13 TX13 42, w ∈ gT := fun w h => gT_of ((by decide +kernel : ∀ w ∈ u_ws RX13 TX13 42, w ∈ lw_tbl) w h) ((by decide +kernel : ∀ w ∈ u_ws RX13 TX13 42, goodWord w = true) w h)
theorem gm_M0 : (.fieldLink RX13 1 "RiverVowsModel" "thrown" "I" : Cond) ∈ gT := gT_of (List.mem_of_getElem? (i := 1572) (by decide +kernel)) rfl
theorem gm_M1 : (.methodLink RX13 7 yX13_lay : Cond) ∈ gT := gT_of (List.mem_of_getElem? (i := 1519) (by decide +kernel)) rfl
theorem gm_M2 : (.instanceMethod yX13_lay : Cond) ∈ gT := gT_of (List.mem_of_getElem? (i := 1521) (by decide +kernel)) rfl
theorem gm_M3 : (.selects RX13 yX13_lay yX13_lay : Cond) ∈ gT := gT_of (List.mem_of_getElem? (i := 72) (by decide +kernel)) rfl
theorem gm_M4 : (.initialized RX13 : Cond) ∈ gT := gT_of (List.mem_of_getElem? (i := 154) (by decide +kernel)) rfl
theorem gm_M5 : (.code yX13_lay cX13_lay 5 none : Cond) ∈ gT := gT_of (List.mem_of_getElem? (i := 1523) (by decide +kernel)) rfl
theorem gm_M6 : (.fieldLink RX13 11 "RiverVowsModel" "taped" "I" : Cond) ∈ gT := gT_of (List.mem_of_getElem? (i := 1574) (by decide +kernel)) rfl
theorem gm_M7 : (.fieldLink RX13 14 "RiverVowsModel" "tape" "[I" : Cond) ∈ gT := gT_of (List.mem_of_getElem? (i := 1573) (by decide +kernel)) rfl
theorem gm_M8 : (.methodLink RX13 167 yX13_isLetter : Cond) ∈ gT := gT_of (List.mem_of_getElem? (i := 1708) (by decide +kernel)) rfl
theorem gm_M9 : (.static yX13_isLetter : Cond) ∈ gT := gT_of (List.mem_of_getElem? (i := 1709) (by decide +kernel)) rfl
theorem gm_M10 : (.code yX13_isLetter cX13_isLetter 1 (some .boolean) : Cond) ∈ gT := gT_of (List.mem_of_getElem? (i := 1710) (by decide +kernel)) rfl
theorem gm_M11 : (.fieldLink RX13 171 "RiverVowsModel" "size" "I" : Cond) ∈ gT := gT_of (List.mem_of_getElem? (i := 1575) (by decide +kernel)) rfl
theorem gm_M12 : (.fieldLink RX13 27 "RiverVowsModel" "place" "[I" : Cond) ∈ gT := gT_of (List.mem_of_getElem? (i := 1577) (by decide +kernel)) rfl
theorem gm_M13 : (.constantLong RX13 174 (37) : Cond) ∈ gT := gT_of (List.mem_of_getElem? (i := 1711) (by decide +kernel)) rfl
theorem gm_M14 : (.methodLink RX13 176 yX13_rank : Cond) ∈ gT := gT_of (List.mem_of_getElem? (i := 1712) (by decide +kernel)) rfl
theorem gm_M15 : (.static yX13_rank : Cond) ∈ gT := gT_of (List.mem_of_getElem? (i := 1713) (by decide +kernel)) rfl
theorem gm_M16 : (.code yX13_rank cX13_rank 1 (some .int) : Cond) ∈ gT := gT_of (List.mem_of_getElem? (i := 1714) (by decide +kernel)) rfl
theorem gm_M17 : (.fieldLink RX13 24 "RiverVowsModel" "sort" "[I" : Cond) ∈ gT := gT_of (List.mem_of_getElem? (i := 1576) (by decide +kernel)) rfl
theorem gm_M18 : (.methodLink RX13 180 yX13_isDigit : Cond) ∈ gT := gT_of (List.mem_of_getElem? (i := 1715) (by decide +kernel)) rfl
theorem gm_M19 : (.static yX13_isDigit : Cond) ∈ gT := gT_of (List.mem_of_getElem? (i := 1716) (by decide +kernel)) rfl
theorem gm_M20 : (.code yX13_isDigit cX13_isDigit 1 (some .boolean) : Cond) ∈ gT := gT_of (List.mem_of_getElem? (i := 1717) (by decide +kernel)) rfl
theorem gm_M21 : (.constantLong RX13 183 (10) : Cond) ∈ gT := gT_of (List.mem_of_getElem? (i := 1718) (by decide +kernel)) rfl
theorem gm_M22 : (.constantLong RX13 185 (48) : Cond) ∈ gT := gT_of (List.mem_of_getElem? (i := 1719) (by decide +kernel)) rfl
theorem gm_M23 : (.methodLink RX13 187 yX13_isSignOf : Cond) ∈ gT := gT_of (List.mem_of_getElem? (i := 1720) (by decide +kernel)) rfl
theorem gm_M24 : (.static yX13_isSignOf : Cond) ∈ gT := gT_of (List.mem_of_getElem? (i := 1721) (by decide +kernel)) rfl
theorem gm_M25 : (.code yX13_isSignOf cX13_isSignOf 1 (some .boolean) : Cond) ∈ gT := gT_of (List.mem_of_getElem? (i := 1722) (by decide +kernel)) rfl
theorem gm_M26 : (.fieldLink RX13 30 "RiverVowsModel" "value" "[J" : Cond) ∈ gT := gT_of (List.mem_of_getElem? (i := 1578) (by decide +kernel)) rfl
theorem gm_M27 : (.fieldLink RX13 190 "RiverVowsModel" "at" "I" : Cond) ∈ gT := gT_of (List.mem_of_getElem? (i := 1579) (by decide +kernel)) rfl
theorem gm_M28 : (.fieldLink RX13 193 "RiverVowsModel" "fault" "I" : Cond) ∈ gT := gT_of (List.mem_of_getElem? (i := 1580) (by decide +kernel)) rfl
theorem gm_M29 : (.fieldLink RX13 96 "RiverVowsModel" "words" "[J" : Cond) ∈ gT := gT_of (List.mem_of_getElem? (i := 1581) (by decide +kernel)) rfl
theorem gm_M30 : (.methodLink RX13 196 yX13_isSign : Cond) ∈ gT := gT_of (List.mem_of_getElem? (i := 1798) (by decide +kernel)) rfl
theorem gm_M31 : (.instanceMethod yX13_isSign : Cond) ∈ gT := gT_of (List.mem_of_getElem? (i := 1800) (by decide +kernel)) rfl
theorem gm_M32 : (.selects RX13 yX13_isSign yX13_isSign : Cond) ∈ gT := gT_of (List.mem_of_getElem? (i := 95) (by decide +kernel)) rfl
theorem gm_M33 : (.code yX13_isSign cX13_isSign 2 (some .boolean) : Cond) ∈ gT := gT_of (List.mem_of_getElem? (i := 1801) (by decide +kernel)) rfl
theorem gm_M34 : (.methodLink RX13 199 yX13_wrong : Cond) ∈ gT := gT_of (List.mem_of_getElem? (i := 1731) (by decide +kernel)) rfl
theorem gm_M35 : (.instanceMethod yX13_wrong : Cond) ∈ gT := gT_of (List.mem_of_getElem? (i := 1733) (by decide +kernel)) rfl
theorem gm_M36 : (.selects RX13 yX13_wrong yX13_wrong : Cond) ∈ gT := gT_of (List.mem_of_getElem? (i := 79) (by decide +kernel)) rfl
theorem gm_M37 : (.code yX13_wrong cX13_wrong 2 none : Cond) ∈ gT := gT_of (List.mem_of_getElem? (i := 1734) (by decide +kernel)) rfl
theorem gm_M38 : (.methodLink RX13 202 yX13_isWord : Cond) ∈ gT := gT_of (List.mem_of_getElem? (i := 1723) (by decide +kernel)) rfl
theorem gm_M39 : (.instanceMethod yX13_isWord : Cond) ∈ gT := gT_of (List.mem_of_getElem? (i := 1725) (by decide +kernel)) rfl
theorem gm_M40 : (.selects RX13 yX13_isWord yX13_isWord : Cond) ∈ gT := gT_of (List.mem_of_getElem? (i := 77) (by decide +kernel)) rfl
theorem gm_M41 : (.code yX13_isWord cX13_isWord 2 (some .boolean) : Cond) ∈ gT := gT_of (List.mem_of_getElem? (i := 1726) (by decide +kernel)) rfl
theorem gm_M42 : (.methodLink RX13 205 yX13_hasWord : Cond) ∈ gT := gT_of (List.mem_of_getElem? (i := 1755) (by decide +kernel)) rfl
theorem gm_M43 : (.instanceMethod yX13_hasWord : Cond) ∈ gT := gT_of (List.mem_of_getElem? (i := 1757) (by decide +kernel)) rfl
theorem gm_M44 : (.selects RX13 yX13_hasWord yX13_hasWord : Cond) ∈ gT := gT_of (List.mem_of_getElem? (i := 85) (by decide +kernel)) rfl
theorem gm_M45 : (.code yX13_hasWord cX13_hasWord 3 (some .boolean) : Cond) ∈ gT := gT_of (List.mem_of_getElem? (i := 1758) (by decide +kernel)) rfl
theorem gm_M46 : (.fieldLink RX13 99 "RiverVowsModel" "lands" "[I" : Cond) ∈ gT := gT_of (List.mem_of_getElem? (i := 1582) (by decide +kernel)) rfl
theorem gm_M47 : (.methodLink RX13 208 yX13_takeWord : Cond) ∈ gT := gT_of (List.mem_of_getElem? (i := 1751) (by decide +kernel)) rfl
theorem gm_M48 : (.instanceMethod yX13_takeWord : Cond) ∈ gT := gT_of (List.mem_of_getElem? (i := 1753) (by decide +kernel)) rfl
theorem gm_M49 : (.selects RX13 yX13_takeWord yX13_takeWord : Cond) ∈ gT := gT_of (List.mem_of_getElem? (i := 84) (by decide +kernel)) rfl
theorem gm_M50 : (.code yX13_takeWord cX13_takeWord 2 none : Cond) ∈ gT := gT_of (List.mem_of_getElem? (i := 1754) (by decide +kernel)) rfl
theorem gm_M51 : (.methodLink RX13 211 yX13_takeNumber : Cond) ∈ gT := gT_of (List.mem_of_getElem? (i := 1759) (by decide +kernel)) rfl
theorem gm_M52 : (.instanceMethod yX13_takeNumber : Cond) ∈ gT := gT_of (List.mem_of_getElem? (i := 1761) (by decide +kernel)) rfl
theorem gm_M53 : (.selects RX13 yX13_takeNumber yX13_takeNumber : Cond) ∈ gT := gT_of (List.mem_of_getElem? (i := 86) (by decide +kernel)) rfl
theorem gm_M54 : (.code yX13_takeNumber cX13_takeNumber 3 (some .int) : Cond) ∈ gT := gT_of (List.mem_of_getElem? (i := 1762) (by decide +kernel)) rfl
theorem gm_M55 : (.methodLink RX13 215 yX13_wordHere : Cond) ∈ gT := gT_of (List.mem_of_getElem? (i := 1739) (by decide +kernel)) rfl
theorem gm_M56 : (.instanceMethod yX13_wordHere : Cond) ∈ gT := gT_of (List.mem_of_getElem? (i := 1741) (by decide +kernel)) rfl
theorem gm_M57 : (.selects RX13 yX13_wordHere yX13_wordHere : Cond) ∈ gT := gT_of (List.mem_of_getElem? (i := 81) (by decide +kernel)) rfl
theorem gm_M58 : (.code yX13_wordHere cX13_wordHere 5 (some .int) : Cond) ∈ gT := gT_of (List.mem_of_getElem? (i := 1742) (by decide +kernel)) rfl
theorem gm_M59 : (.fieldLink RX13 111 "RiverVowsModel" "readNames" "[J" : Cond) ∈ gT := gT_of (List.mem_of_getElem? (i := 1587) (by decide +kernel)) rfl
theorem gm_M60 : (.fieldLink RX13 108 "RiverVowsModel" "names" "[J" : Cond) ∈ gT := gT_of (List.mem_of_getElem? (i := 1586) (by decide +kernel)) rfl
theorem gm_M61 : (.methodLink RX13 218 yX13_isName : Cond) ∈ gT := gT_of (List.mem_of_getElem? (i := 1735) (by decide +kernel)) rfl
theorem gm_M62 : (.instanceMethod yX13_isName : Cond) ∈ gT := gT_of (List.mem_of_getElem? (i := 1737) (by decide +kernel)) rfl
theorem gm_M63 : (.selects RX13 yX13_isName yX13_isName : Cond) ∈ gT := gT_of (List.mem_of_getElem? (i := 80) (by decide +kernel)) rfl
theorem gm_M64 : (.code yX13_isName cX13_isName 1 (some .boolean) : Cond) ∈ gT := gT_of (List.mem_of_getElem? (i := 1738) (by decide +kernel)) rfl
theorem gm_M65 : (.methodLink RX13 222 yX13_find : Cond) ∈ gT := gT_of (List.mem_of_getElem? (i := 1743) (by decide +kernel)) rfl
theorem gm_M66 : (.instanceMethod yX13_find : Cond) ∈ gT := gT_of (List.mem_of_getElem? (i := 1745) (by decide +kernel)) rfl
theorem gm_M67 : (.selects RX13 yX13_find yX13_find : Cond) ∈ gT := gT_of (List.mem_of_getElem? (i := 82) (by decide +kernel)) rfl
theorem gm_M68 : (.code yX13_find cX13_find 3 (some .int) : Cond) ∈ gT := gT_of (List.mem_of_getElem? (i := 1746) (by decide +kernel)) rfl
theorem gm_M69 : (.methodLink RX13 226 yX13_cutAll : Cond) ∈ gT := gT_of (List.mem_of_getElem? (i := 1704) (by decide +kernel)) rfl
theorem gm_M70 : (.instanceMethod yX13_cutAll : Cond) ∈ gT := gT_of (List.mem_of_getElem? (i := 1706) (by decide +kernel)) rfl
theorem gm_M71 : (.selects RX13 yX13_cutAll yX13_cutAll : Cond) ∈ gT := gT_of (List.mem_of_getElem? (i := 76) (by decide +kernel)) rfl
theorem gm_M72 : (.code yX13_cutAll cX13_cutAll 7 none : Cond) ∈ gT := gT_of (List.mem_of_getElem? (i := 1707) (by decide +kernel)) rfl
theorem gm_M73 : (.fieldLink RX13 229 "RiverVowsModel" "codes" "I" : Cond) ∈ gT := gT_of (List.mem_of_getElem? (i := 1585) (by decide +kernel)) rfl
theorem gm_M74 : (.fieldLink RX13 232 "RiverVowsModel" "told" "I" : Cond) ∈ gT := gT_of (List.mem_of_getElem? (i := 1589) (by decide +kernel)) rfl
theorem gm_M75 : (.methodLink RX13 160 yX13_standsAsAlways : Cond) ∈ gT := gT_of (List.mem_of_getElem? (i := 1560) (by decide +kernel)) rfl
theorem gm_M76 : (.instanceMethod yX13_standsAsAlways : Cond) ∈ gT := gT_of (List.mem_of_getElem? (i := 1562) (by decide +kernel)) rfl
theorem gm_M77 : (.selects RX13 yX13_standsAsAlways yX13_standsAsAlways : Cond) ∈ gT := gT_of (List.mem_of_getElem? (i := 73) (by decide +kernel)) rfl
theorem gm_M78 : (.code yX13_standsAsAlways cX13_standsAsAlways 3 none : Cond) ∈ gT := gT_of (List.mem_of_getElem? (i := 1563) (by decide +kernel)) rfl
theorem gm_M79 : (.methodLink RX13 235 yX13_readRiver : Cond) ∈ gT := gT_of (List.mem_of_getElem? (i := 1727) (by decide +kernel)) rfl
theorem gm_M80 : (.instanceMethod yX13_readRiver : Cond) ∈ gT := gT_of (List.mem_of_getElem? (i := 1729) (by decide +kernel)) rfl
theorem gm_M81 : (.selects RX13 yX13_readRiver yX13_readRiver : Cond) ∈ gT := gT_of (List.mem_of_getElem? (i := 78) (by decide +kernel)) rfl
theorem gm_M82 : (.code yX13_readRiver cX13_readRiver 7 none : Cond) ∈ gT := gT_of (List.mem_of_getElem? (i := 1730) (by decide +kernel)) rfl
theorem gm_M83 : (.methodLink RX13 238 yX13_readRange : Cond) ∈ gT := gT_of (List.mem_of_getElem? (i := 1770) (by decide +kernel)) rfl
theorem gm_M84 : (.instanceMethod yX13_readRange : Cond) ∈ gT := gT_of (List.mem_of_getElem? (i := 1772) (by decide +kernel)) rfl
theorem gm_M85 : (.selects RX13 yX13_readRange yX13_readRange : Cond) ∈ gT := gT_of (List.mem_of_getElem? (i := 88) (by decide +kernel)) rfl
theorem gm_M86 : (.code yX13_readRange cX13_readRange 4 none : Cond) ∈ gT := gT_of (List.mem_of_getElem? (i := 1773) (by decide +kernel)) rfl
theorem gm_M87 : (.methodLink RX13 241 yX13_readOnce : Cond) ∈ gT := gT_of (List.mem_of_getElem? (i := 1774) (by decide +kernel)) rfl
theorem gm_M88 : (.instanceMethod yX13_readOnce : Cond) ∈ gT := gT_of (List.mem_of_getElem? (i := 1776) (by decide +kernel)) rfl
theorem gm_M89 : (.selects RX13 yX13_readOnce yX13_readOnce : Cond) ∈ gT := gT_of (List.mem_of_getElem? (i := 89) (by decide +kernel)) rfl
theorem gm_M90 : (.code yX13_readOnce cX13_readOnce 2 none : Cond) ∈ gT := gT_of (List.mem_of_getElem? (i := 1777) (by decide +kernel)) rfl
theorem gm_M91 : (.methodLink RX13 244 yX13_takeSign : Cond) ∈ gT := gT_of (List.mem_of_getElem? (i := 1810) (by decide +kernel)) rfl
theorem gm_M92 : (.instanceMethod yX13_takeSign : Cond) ∈ gT := gT_of (List.mem_of_getElem? (i := 1812) (by decide +kernel)) rfl
theorem gm_M93 : (.selects RX13 yX13_takeSign yX13_takeSign : Cond) ∈ gT := gT_of (List.mem_of_getElem? (i := 98) (by decide +kernel)) rfl
theorem gm_M94 : (.code yX13_takeSign cX13_takeSign 2 none : Cond) ∈ gT := gT_of (List.mem_of_getElem? (i := 1813) (by decide +kernel)) rfl
theorem gm_M95 : (.fieldLink RX13 102 "RiverVowsModel" "op" "[I" : Cond) ∈ gT := gT_of (List.mem_of_getElem? (i := 1583) (by decide +kernel)) rfl
theorem gm_M96 : (.fieldLink RX13 105 "RiverVowsModel" "arg" "[I" : Cond) ∈ gT := gT_of (List.mem_of_getElem? (i := 1584) (by decide +kernel)) rfl
theorem gm_M97 : (.methodLink RX13 164 yX13_begins : Cond) ∈ gT := gT_of (List.mem_of_getElem? (i := 1564) (by decide +kernel)) rfl
theorem gm_M98 : (.instanceMethod yX13_begins : Cond) ∈ gT := gT_of (List.mem_of_getElem? (i := 1566) (by decide +kernel)) rfl
theorem gm_M99 : (.selects RX13 yX13_begins yX13_begins : Cond) ∈ gT := gT_of (List.mem_of_getElem? (i := 74) (by decide +kernel)) rfl
theorem gm_M100 : (.code yX13_begins cX13_begins 2 none : Cond) ∈ gT := gT_of (List.mem_of_getElem? (i := 1567) (by decide +kernel)) rfl
theorem gm_M101 : (.methodLink RX13 247 yX13_takeAfter : Cond) ∈ gT := gT_of (List.mem_of_getElem? (i := 1747) (by decide +kernel)) rfl
theorem gm_M102 : (.instanceMethod yX13_takeAfter : Cond) ∈ gT := gT_of (List.mem_of_getElem? (i := 1749) (by decide +kernel)) rfl
theorem gm_M103 : (.selects RX13 yX13_takeAfter yX13_takeAfter : Cond) ∈ gT := gT_of (List.mem_of_getElem? (i := 83) (by decide +kernel)) rfl
theorem gm_M104 : (.code yX13_takeAfter cX13_takeAfter 4 (some .int) : Cond) ∈ gT := gT_of (List.mem_of_getElem? (i := 1750) (by decide +kernel)) rfl
theorem gm_M105 : (.methodLink RX13 251 yX13_riverHere : Cond) ∈ gT := gT_of (List.mem_of_getElem? (i := 1763) (by decide +kernel)) rfl
theorem gm_M106 : (.instanceMethod yX13_riverHere : Cond) ∈ gT := gT_of (List.mem_of_getElem? (i := 1765) (by decide +kernel)) rfl
theorem gm_M107 : (.selects RX13 yX13_riverHere yX13_riverHere : Cond) ∈ gT := gT_of (List.mem_of_getElem? (i := 87) (by decide +kernel)) rfl
theorem gm_M108 : (.code yX13_riverHere cX13_riverHere 3 (some .int) : Cond) ∈ gT := gT_of (List.mem_of_getElem? (i := 1766) (by decide +kernel)) rfl
theorem gm_M109 : (.methodLink RX13 254 yX13_lettersOf : Cond) ∈ gT := gT_of (List.mem_of_getElem? (i := 1767) (by decide +kernel)) rfl
theorem gm_M110 : (.static yX13_lettersOf : Cond) ∈ gT := gT_of (List.mem_of_getElem? (i := 1768) (by decide +kernel)) rfl
theorem gm_M111 : (.code yX13_lettersOf cX13_lettersOf 5 (some .int) : Cond) ∈ gT := gT_of (List.mem_of_getElem? (i := 1769) (by decide +kernel)) rfl
theorem gm_M112 : (.fieldLink RX13 258 "RiverVowsModel" "factMany" "I" : Cond) ∈ gT := gT_of (List.mem_of_getElem? (i := 1588) (by decide +kernel)) rfl
theorem gm_M113 : (.methodLink RX13 261 yX13_all : Cond) ∈ gT := gT_of (List.mem_of_getElem? (i := 1778) (by decide +kernel)) rfl
theorem gm_M114 : (.instanceMethod yX13_all : Cond) ∈ gT := gT_of (List.mem_of_getElem? (i := 1780) (by decide +kernel)) rfl
theorem gm_M115 : (.selects RX13 yX13_all yX13_all : Cond) ∈ gT := gT_of (List.mem_of_getElem? (i := 90) (by decide +kernel)) rfl
theorem gm_M116 : (.code yX13_all cX13_all 3 none : Cond) ∈ gT := gT_of (List.mem_of_getElem? (i := 1781) (by decide +kernel)) rfl
theorem gm_M117 : (.methodLink RX13 264 yX13_emit : Cond) ∈ gT := gT_of (List.mem_of_getElem? (i := 1802) (by decide +kernel)) rfl
theorem gm_M118 : (.instanceMethod yX13_emit : Cond) ∈ gT := gT_of (List.mem_of_getElem? (i := 1804) (by decide +kernel)) rfl
theorem gm_M119 : (.selects RX13 yX13_emit yX13_emit : Cond) ∈ gT := gT_of (List.mem_of_getElem? (i := 96) (by decide +kernel)) rfl
theorem gm_M120 : (.code yX13_emit cX13_emit 3 none : Cond) ∈ gT := gT_of (List.mem_of_getElem? (i := 1805) (by decide +kernel)) rfl
theorem gm_M121 : (.fieldLink RX13 114 "RiverVowsModel" "lines" "[I" : Cond) ∈ gT := gT_of (List.mem_of_getElem? (i := 1590) (by decide +kernel)) rfl
theorem gm_M122 : (.fieldLink RX13 117 "RiverVowsModel" "readWants" "[I" : Cond) ∈ gT := gT_of (List.mem_of_getElem? (i := 1591) (by decide +kernel)) rfl
theorem gm_M123 : (.fieldLink RX13 126 "RiverVowsModel" "state" "[I" : Cond) ∈ gT := gT_of (List.mem_of_getElem? (i := 1594) (by decide +kernel)) rfl
theorem gm_M124 : (.methodLink RX13 268 yX13_test : Cond) ∈ gT := gT_of (List.mem_of_getElem? (i := 1782) (by decide +kernel)) rfl
theorem gm_M125 : (.instanceMethod yX13_test : Cond) ∈ gT := gT_of (List.mem_of_getElem? (i := 1784) (by decide +kernel)) rfl
theorem gm_M126 : (.selects RX13 yX13_test yX13_test : Cond) ∈ gT := gT_of (List.mem_of_getElem? (i := 91) (by decide +kernel)) rfl
theorem gm_M127 : (.code yX13_test cX13_test 3 none : Cond) ∈ gT := gT_of (List.mem_of_getElem? (i := 1785) (by decide +kernel)) rfl
theorem gm_M128 : (.methodLink RX13 271 yX13_sums : Cond) ∈ gT := gT_of (List.mem_of_getElem? (i := 1786) (by decide +kernel)) rfl
theorem gm_M129 : (.instanceMethod yX13_sums : Cond) ∈ gT := gT_of (List.mem_of_getElem? (i := 1788) (by decide +kernel)) rfl
theorem gm_M130 : (.selects RX13 yX13_sums yX13_sums : Cond) ∈ gT := gT_of (List.mem_of_getElem? (i := 92) (by decide +kernel)) rfl
theorem gm_M131 : (.code yX13_sums cX13_sums 3 none : Cond) ∈ gT := gT_of (List.mem_of_getElem? (i := 1789) (by decide +kernel)) rfl
theorem gm_M132 : (.methodLink RX13 274 yX13_hasSign : Cond) ∈ gT := gT_of (List.mem_of_getElem? (i := 1806) (by decide +kernel)) rfl
theorem gm_M133 : (.instanceMethod yX13_hasSign : Cond) ∈ gT := gT_of (List.mem_of_getElem? (i := 1808) (by decide +kernel)) rfl
theorem gm_M134 : (.selects RX13 yX13_hasSign yX13_hasSign : Cond) ∈ gT := gT_of (List.mem_of_getElem? (i := 97) (by decide +kernel)) rfl
theorem gm_M135 : (.code yX13_hasSign cX13_hasSign 3 (some .boolean) : Cond) ∈ gT := gT_of (List.mem_of_getElem? (i := 1809) (by decide +kernel)) rfl
theorem gm_M136 : (.methodLink RX13 277 yX13_products : Cond) ∈ gT := gT_of (List.mem_of_getElem? (i := 1790) (by decide +kernel)) rfl
theorem gm_M137 : (.instanceMethod yX13_products : Cond) ∈ gT := gT_of (List.mem_of_getElem? (i := 1792) (by decide +kernel)) rfl
theorem gm_M138 : (.selects RX13 yX13_products yX13_products : Cond) ∈ gT := gT_of (List.mem_of_getElem? (i := 93) (by decide +kernel)) rfl
theorem gm_M139 : (.code yX13_products cX13_products 2 none : Cond) ∈ gT := gT_of (List.mem_of_getElem? (i := 1793) (by decide +kernel)) rfl
theorem gm_M140 : (.methodLink RX13 280 yX13_takePart : Cond) ∈ gT := gT_of (List.mem_of_getElem? (i := 1794) (by decide +kernel)) rfl
theorem gm_M141 : (.instanceMethod yX13_takePart : Cond) ∈ gT := gT_of (List.mem_of_getElem? (i := 1796) (by decide +kernel)) rfl
theorem gm_M142 : (.selects RX13 yX13_takePart yX13_takePart : Cond) ∈ gT := gT_of (List.mem_of_getElem? (i := 94) (by decide +kernel)) rfl
theorem gm_M143 : (.code yX13_takePart cX13_takePart 4 none : Cond) ∈ gT := gT_of (List.mem_of_getElem? (i := 1797) (by decide +kernel)) rfl
theorem gm_M144 : (.fieldLink RX13 123 "RiverVowsModel" "pile" "[I" : Cond) ∈ gT := gT_of (List.mem_of_getElem? (i := 1593) (by decide +kernel)) rfl
theorem gm_M145 : (.fieldLink RX13 120 "RiverVowsModel" "facts" "[I" : Cond) ∈ gT := gT_of (List.mem_of_getElem? (i := 1592) (by decide +kernel)) rfl
theorem gm_M146 : (.methodLink RX13 283 yX13_both : Cond) ∈ gT := gT_of (List.mem_of_getElem? (i := 1961) (by decide +kernel)) rfl
theorem gm_M147 : (.static yX13_both : Cond) ∈ gT := gT_of (List.mem_of_getElem? (i := 1962) (by decide +kernel)) rfl
theorem gm_M148 : (.code yX13_both cX13_both 3 (some .int) : Cond) ∈ gT := gT_of (List.mem_of_getElem? (i := 1963) (by decide +kernel)) rfl
theorem gm_M149 : (.methodLink RX13 286 yX13_starts : Cond) ∈ gT := gT_of (List.mem_of_getElem? (i := 1568) (by decide +kernel)) rfl
theorem gm_M150 : (.instanceMethod yX13_starts : Cond) ∈ gT := gT_of (List.mem_of_getElem? (i := 1570) (by decide +kernel)) rfl
theorem gm_M151 : (.selects RX13 yX13_starts yX13_starts : Cond) ∈ gT := gT_of (List.mem_of_getElem? (i := 75) (by decide +kernel)) rfl
theorem gm_M152 : (.code yX13_starts cX13_starts 3 none : Cond) ∈ gT := gT_of (List.mem_of_getElem? (i := 1571) (by decide +kernel)) rfl
theorem gm_M153 : (.fieldLink RX13 289 "RiverVowsModel" "undos" "I" : Cond) ∈ gT := gT_of (List.mem_of_getElem? (i := 1595) (by decide +kernel)) rfl
theorem gm_M154 : (.fieldLink RX13 129 "RiverVowsModel" "isMarked" "[Z" : Cond) ∈ gT := gT_of (List.mem_of_getElem? (i := 1596) (by decide +kernel)) rfl
theorem gm_M155 : (.methodLink RX13 292 yX13_copies : Cond) ∈ gT := gT_of (List.mem_of_getElem? (i := 1941) (by decide +kernel)) rfl
theorem gm_M156 : (.instanceMethod yX13_copies : Cond) ∈ gT := gT_of (List.mem_of_getElem? (i := 1943) (by decide +kernel)) rfl
theorem gm_M157 : (.selects RX13 yX13_copies yX13_copies : Cond) ∈ gT := gT_of (List.mem_of_getElem? (i := 120) (by decide +kernel)) rfl
theorem gm_M158 : (.code yX13_copies cX13_copies 5 none : Cond) ∈ gT := gT_of (List.mem_of_getElem? (i := 1944) (by decide +kernel)) rfl
theorem gm_M159 : (.methodLink RX13 296 yX13_rivers : Cond) ∈ gT := gT_of (List.mem_of_getElem? (i := 1830) (by decide +kernel)) rfl
theorem gm_M160 : (.instanceMethod yX13_rivers : Cond) ∈ gT := gT_of (List.mem_of_getElem? (i := 1832) (by decide +kernel)) rfl
theorem gm_M161 : (.selects RX13 yX13_rivers yX13_rivers : Cond) ∈ gT := gT_of (List.mem_of_getElem? (i := 100) (by decide +kernel)) rfl
theorem gm_M162 : (.code yX13_rivers cX13_rivers 1 (some .int) : Cond) ∈ gT := gT_of (List.mem_of_getElem? (i := 1833) (by decide +kernel)) rfl
theorem gm_M163 : (.methodLink RX13 300 yX13_riverOf : Cond) ∈ gT := gT_of (List.mem_of_getElem? (i := 1837) (by decide +kernel)) rfl
theorem gm_M164 : (.instanceMethod yX13_riverOf : Cond) ∈ gT := gT_of (List.mem_of_getElem? (i := 1839) (by decide +kernel)) rfl
theorem gm_M165 : (.selects RX13 yX13_riverOf yX13_riverOf : Cond) ∈ gT := gT_of (List.mem_of_getElem? (i := 101) (by decide +kernel)) rfl
theorem gm_M166 : (.code yX13_riverOf cX13_riverOf 3 (some .int) : Cond) ∈ gT := gT_of (List.mem_of_getElem? (i := 1840) (by decide +kernel)) rfl
theorem gm_M167 : (.methodLink RX13 303 yX13_husbandOf : Cond) ∈ gT := gT_of (List.mem_of_getElem? (i := 1841) (by decide +kernel)) rfl
theorem gm_M168 : (.instanceMethod yX13_husbandOf : Cond) ∈ gT := gT_of (List.mem_of_getElem? (i := 1843) (by decide +kernel)) rfl
theorem gm_M169 : (.selects RX13 yX13_husbandOf yX13_husbandOf : Cond) ∈ gT := gT_of (List.mem_of_getElem? (i := 102) (by decide +kernel)) rfl
theorem gm_M170 : (.code yX13_husbandOf cX13_husbandOf 3 (some .int) : Cond) ∈ gT := gT_of (List.mem_of_getElem? (i := 1844) (by decide +kernel)) rfl
theorem gm_M171 : (.fieldLink RX13 306 "RiverVowsModel" "isDrought" "Z" : Cond) ∈ gT := gT_of (List.mem_of_getElem? (i := 1597) (by decide +kernel)) rfl
theorem gm_M172 : (.methodLink RX13 310 yX13_springOf : Cond) ∈ gT := gT_of (List.mem_of_getElem? (i := 1857) (by decide +kernel)) rfl
theorem gm_M173 : (.instanceMethod yX13_springOf : Cond) ∈ gT := gT_of (List.mem_of_getElem? (i := 1859) (by decide +kernel)) rfl
theorem gm_M174 : (.selects RX13 yX13_springOf yX13_springOf : Cond) ∈ gT := gT_of (List.mem_of_getElem? (i := 105) (by decide +kernel)) rfl
theorem gm_M175 : (.code yX13_springOf cX13_springOf 2 (some .int) : Cond) ∈ gT := gT_of (List.mem_of_getElem? (i := 1860) (by decide +kernel)) rfl
theorem gm_M176 : (.methodLink RX13 313 yX13_mouthOf : Cond) ∈ gT := gT_of (List.mem_of_getElem? (i := 1861) (by decide +kernel)) rfl
theorem gm_M177 : (.instanceMethod yX13_mouthOf : Cond) ∈ gT := gT_of (List.mem_of_getElem? (i := 1863) (by decide +kernel)) rfl
theorem gm_M178 : (.selects RX13 yX13_mouthOf yX13_mouthOf : Cond) ∈ gT := gT_of (List.mem_of_getElem? (i := 106) (by decide +kernel)) rfl
theorem gm_M179 : (.code yX13_mouthOf cX13_mouthOf 2 (some .int) : Cond) ∈ gT := gT_of (List.mem_of_getElem? (i := 1864) (by decide +kernel)) rfl
theorem gm_M180 : (.methodLink RX13 316 yX13_kindOf : Cond) ∈ gT := gT_of (List.mem_of_getElem? (i := 1873) (by decide +kernel)) rfl
theorem gm_M181 : (.instanceMethod yX13_kindOf : Cond) ∈ gT := gT_of (List.mem_of_getElem? (i := 1875) (by decide +kernel)) rfl
theorem gm_M182 : (.selects RX13 yX13_kindOf yX13_kindOf : Cond) ∈ gT := gT_of (List.mem_of_getElem? (i := 109) (by decide +kernel)) rfl
theorem gm_M183 : (.code yX13_kindOf cX13_kindOf 2 (some .int) : Cond) ∈ gT := gT_of (List.mem_of_getElem? (i := 1876) (by decide +kernel)) rfl
theorem gm_M184 : (.methodLink RX13 319 yX13_watersAt : Cond) ∈ gT := gT_of (List.mem_of_getElem? (i := 1869) (by decide +kernel)) rfl
theorem gm_M185 : (.instanceMethod yX13_watersAt : Cond) ∈ gT := gT_of (List.mem_of_getElem? (i := 1871) (by decide +kernel)) rfl
theorem gm_M186 : (.selects RX13 yX13_watersAt yX13_watersAt : Cond) ∈ gT := gT_of (List.mem_of_getElem? (i := 108) (by decide +kernel)) rfl
theorem gm_M187 : (.code yX13_watersAt cX13_watersAt 7 (some .int) : Cond) ∈ gT := gT_of (List.mem_of_getElem? (i := 1872) (by decide +kernel)) rfl
theorem gm_M188 : (.methodLink RX13 322 yX13_ownOf : Cond) ∈ gT := gT_of (List.mem_of_getElem? (i := 1877) (by decide +kernel)) rfl
theorem gm_M189 : (.instanceMethod yX13_ownOf : Cond) ∈ gT := gT_of (List.mem_of_getElem? (i := 1879) (by decide +kernel)) rfl
theorem gm_M190 : (.selects RX13 yX13_ownOf yX13_ownOf : Cond) ∈ gT := gT_of (List.mem_of_getElem? (i := 110) (by decide +kernel)) rfl
theorem gm_M191 : (.code yX13_ownOf cX13_ownOf 3 (some .int) : Cond) ∈ gT := gT_of (List.mem_of_getElem? (i := 1880) (by decide +kernel)) rfl
theorem gm_M192 : (.methodLink RX13 325 yX13_flowAt : Cond) ∈ gT := gT_of (List.mem_of_getElem? (i := 1865) (by decide +kernel)) rfl
theorem gm_M193 : (.instanceMethod yX13_flowAt : Cond) ∈ gT := gT_of (List.mem_of_getElem? (i := 1867) (by decide +kernel)) rfl
theorem gm_M194 : (.selects RX13 yX13_flowAt yX13_flowAt : Cond) ∈ gT := gT_of (List.mem_of_getElem? (i := 107) (by decide +kernel)) rfl
theorem gm_M195 : (.code yX13_flowAt cX13_flowAt 8 (some .int) : Cond) ∈ gT := gT_of (List.mem_of_getElem? (i := 1868) (by decide +kernel)) rfl
theorem gm_M196 : (.methodLink RX13 329 yX13_isDry : Cond) ∈ gT := gT_of (List.mem_of_getElem? (i := 1889) (by decide +kernel)) rfl
theorem gm_M197 : (.instanceMethod yX13_isDry : Cond) ∈ gT := gT_of (List.mem_of_getElem? (i := 1891) (by decide +kernel)) rfl
theorem gm_M198 : (.selects RX13 yX13_isDry yX13_isDry : Cond) ∈ gT := gT_of (List.mem_of_getElem? (i := 112) (by decide +kernel)) rfl
theorem gm_M199 : (.code yX13_isDry cX13_isDry 4 (some .boolean) : Cond) ∈ gT := gT_of (List.mem_of_getElem? (i := 1892) (by decide +kernel)) rfl
theorem gm_M200 : (.methodLink RX13 333 yX13_isFlooded : Cond) ∈ gT := gT_of (List.mem_of_getElem? (i := 1893) (by decide +kernel)) rfl
theorem gm_M201 : (.instanceMethod yX13_isFlooded : Cond) ∈ gT := gT_of (List.mem_of_getElem? (i := 1895) (by decide +kernel)) rfl
theorem gm_M202 : (.selects RX13 yX13_isFlooded yX13_isFlooded : Cond) ∈ gT := gT_of (List.mem_of_getElem? (i := 113) (by decide +kernel)) rfl
theorem gm_M203 : (.code yX13_isFlooded cX13_isFlooded 4 (some .boolean) : Cond) ∈ gT := gT_of (List.mem_of_getElem? (i := 1896) (by decide +kernel)) rfl
theorem gm_M204 : (.methodLink RX13 336 yX13_isRiver : Cond) ∈ gT := gT_of (List.mem_of_getElem? (i := 1826) (by decide +kernel)) rfl
theorem gm_M205 : (.instanceMethod yX13_isRiver : Cond) ∈ gT := gT_of (List.mem_of_getElem? (i := 1828) (by decide +kernel)) rfl
theorem gm_M206 : (.selects RX13 yX13_isRiver yX13_isRiver : Cond) ∈ gT := gT_of (List.mem_of_getElem? (i := 99) (by decide +kernel)) rfl
theorem gm_M207 : (.code yX13_isRiver cX13_isRiver 2 (some .boolean) : Cond) ∈ gT := gT_of (List.mem_of_getElem? (i := 1829) (by decide +kernel)) rfl
theorem gm_M208 : (.methodLink RX13 339 yX13_within : Cond) ∈ gT := gT_of (List.mem_of_getElem? (i := 1834) (by decide +kernel)) rfl
theorem gm_M209 : (.static yX13_within : Cond) ∈ gT := gT_of (List.mem_of_getElem? (i := 1835) (by decide +kernel)) rfl
theorem gm_M210 : (.code yX13_within cX13_within 3 (some .boolean) : Cond) ∈ gT := gT_of (List.mem_of_getElem? (i := 1836) (by decide +kernel)) rfl
theorem gm_M211 : (.methodLink RX13 342 yX13_wivesOf : Cond) ∈ gT := gT_of (List.mem_of_getElem? (i := 1845) (by decide +kernel)) rfl
theorem gm_M212 : (.instanceMethod yX13_wivesOf : Cond) ∈ gT := gT_of (List.mem_of_getElem? (i := 1847) (by decide +kernel)) rfl
theorem gm_M213 : (.selects RX13 yX13_wivesOf yX13_wivesOf : Cond) ∈ gT := gT_of (List.mem_of_getElem? (i := 103) (by decide +kernel)) rfl
theorem gm_M214 : (.code yX13_wivesOf cX13_wivesOf 5 (some .int) : Cond) ∈ gT := gT_of (List.mem_of_getElem? (i := 1848) (by decide +kernel)) rfl
theorem gm_M215 : (.methodLink RX13 345 yX13_isThere : Cond) ∈ gT := gT_of (List.mem_of_getElem? (i := 1853) (by decide +kernel)) rfl
theorem gm_M216 : (.instanceMethod yX13_isThere : Cond) ∈ gT := gT_of (List.mem_of_getElem? (i := 1855) (by decide +kernel)) rfl
theorem gm_M217 : (.selects RX13 yX13_isThere yX13_isThere : Cond) ∈ gT := gT_of (List.mem_of_getElem? (i := 104) (by decide +kernel)) rfl
theorem gm_M218 : (.code yX13_isThere cX13_isThere 3 (some .boolean) : Cond) ∈ gT := gT_of (List.mem_of_getElem? (i := 1856) (by decide +kernel)) rfl
theorem gm_M219 : (.methodLink RX13 349 yX13_winter : Cond) ∈ gT := gT_of (List.mem_of_getElem? (i := 1885) (by decide +kernel)) rfl
theorem gm_M220 : (.instanceMethod yX13_winter : Cond) ∈ gT := gT_of (List.mem_of_getElem? (i := 1887) (by decide +kernel)) rfl
theorem gm_M221 : (.selects RX13 yX13_winter yX13_winter : Cond) ∈ gT := gT_of (List.mem_of_getElem? (i := 111) (by decide +kernel)) rfl
theorem gm_M222 : (.code yX13_winter cX13_winter 2 (some .int) : Cond) ∈ gT := gT_of (List.mem_of_getElem? (i := 1888) (by decide +kernel)) rfl
theorem gm_M223 : (.fieldLink RX13 133 "RiverVowsModel" "far" "[I" : Cond) ∈ gT := gT_of (List.mem_of_getElem? (i := 1598) (by decide +kernel)) rfl
theorem gm_M224 : (.methodLink RX13 352 yX13_nearOf : Cond) ∈ gT := gT_of (List.mem_of_getElem? (i := 1901) (by decide +kernel)) rfl
theorem gm_M225 : (.instanceMethod yX13_nearOf : Cond) ∈ gT := gT_of (List.mem_of_getElem? (i := 1903) (by decide +kernel)) rfl
theorem gm_M226 : (.selects RX13 yX13_nearOf yX13_nearOf : Cond) ∈ gT := gT_of (List.mem_of_getElem? (i := 114) (by decide +kernel)) rfl
theorem gm_M227 : (.code yX13_nearOf cX13_nearOf 7 (some .int) : Cond) ∈ gT := gT_of (List.mem_of_getElem? (i := 1904) (by decide +kernel)) rfl
theorem gm_M228 : (.methodLink RX13 355 yX13_between : Cond) ∈ gT := gT_of (List.mem_of_getElem? (i := 1913) (by decide +kernel)) rfl
theorem gm_M229 : (.instanceMethod yX13_between : Cond) ∈ gT := gT_of (List.mem_of_getElem? (i := 1915) (by decide +kernel)) rfl
theorem gm_M230 : (.selects RX13 yX13_between yX13_between : Cond) ∈ gT := gT_of (List.mem_of_getElem? (i := 116) (by decide +kernel)) rfl
theorem gm_M231 : (.code yX13_between cX13_between 9 (some .int) : Cond) ∈ gT := gT_of (List.mem_of_getElem? (i := 1916) (by decide +kernel)) rfl
theorem gm_M232 : (.methodLink RX13 358 yX13_digOf : Cond) ∈ gT := gT_of (List.mem_of_getElem? (i := 1909) (by decide +kernel)) rfl
theorem gm_M233 : (.instanceMethod yX13_digOf : Cond) ∈ gT := gT_of (List.mem_of_getElem? (i := 1911) (by decide +kernel)) rfl
theorem gm_M234 : (.selects RX13 yX13_digOf yX13_digOf : Cond) ∈ gT := gT_of (List.mem_of_getElem? (i := 115) (by decide +kernel)) rfl
theorem gm_M235 : (.code yX13_digOf cX13_digOf 4 (some .int) : Cond) ∈ gT := gT_of (List.mem_of_getElem? (i := 1912) (by decide +kernel)) rfl
theorem gm_M236 : (.methodLink RX13 361 yX13_mayWed : Cond) ∈ gT := gT_of (List.mem_of_getElem? (i := 1925) (by decide +kernel)) rfl
theorem gm_M237 : (.instanceMethod yX13_mayWed : Cond) ∈ gT := gT_of (List.mem_of_getElem? (i := 1927) (by decide +kernel)) rfl
theorem gm_M238 : (.selects RX13 yX13_mayWed yX13_mayWed : Cond) ∈ gT := gT_of (List.mem_of_getElem? (i := 118) (by decide +kernel)) rfl
theorem gm_M239 : (.code yX13_mayWed cX13_mayWed 6 (some .boolean) : Cond) ∈ gT := gT_of (List.mem_of_getElem? (i := 1928) (by decide +kernel)) rfl
theorem gm_M240 : (.methodLink RX13 364 yX13_mayOf : Cond) ∈ gT := gT_of (List.mem_of_getElem? (i := 1921) (by decide +kernel)) rfl
theorem gm_M241 : (.instanceMethod yX13_mayOf : Cond) ∈ gT := gT_of (List.mem_of_getElem? (i := 1923) (by decide +kernel)) rfl
theorem gm_M242 : (.selects RX13 yX13_mayOf yX13_mayOf : Cond) ∈ gT := gT_of (List.mem_of_getElem? (i := 117) (by decide +kernel)) rfl
theorem gm_M243 : (.code yX13_mayOf cX13_mayOf 5 (some .int) : Cond) ∈ gT := gT_of (List.mem_of_getElem? (i := 1924) (by decide +kernel)) rfl
theorem gm_M244 : (.methodLink RX13 367 yX13_worthAt : Cond) ∈ gT := gT_of (List.mem_of_getElem? (i := 1957) (by decide +kernel)) rfl
theorem gm_M245 : (.instanceMethod yX13_worthAt : Cond) ∈ gT := gT_of (List.mem_of_getElem? (i := 1959) (by decide +kernel)) rfl
theorem gm_M246 : (.selects RX13 yX13_worthAt yX13_worthAt : Cond) ∈ gT := gT_of (List.mem_of_getElem? (i := 124) (by decide +kernel)) rfl
theorem gm_M247 : (.code yX13_worthAt cX13_worthAt 5 (some .int) : Cond) ∈ gT := gT_of (List.mem_of_getElem? (i := 1960) (by decide +kernel)) rfl
theorem gm_M248 : (.methodLink RX13 370 yX13_mouthFlow : Cond) ∈ gT := gT_of (List.mem_of_getElem? (i := 1949) (by decide +kernel)) rfl
theorem gm_M249 : (.instanceMethod yX13_mouthFlow : Cond) ∈ gT := gT_of (List.mem_of_getElem? (i := 1951) (by decide +kernel)) rfl
theorem gm_M250 : (.selects RX13 yX13_mouthFlow yX13_mouthFlow : Cond) ∈ gT := gT_of (List.mem_of_getElem? (i := 122) (by decide +kernel)) rfl
theorem gm_M251 : (.code yX13_mouthFlow cX13_mouthFlow 4 (some .int) : Cond) ∈ gT := gT_of (List.mem_of_getElem? (i := 1952) (by decide +kernel)) rfl
theorem gm_M252 : (.methodLink RX13 373 yX13_lawOf : Cond) ∈ gT := gT_of (List.mem_of_getElem? (i := 1953) (by decide +kernel)) rfl
theorem gm_M253 : (.instanceMethod yX13_lawOf : Cond) ∈ gT := gT_of (List.mem_of_getElem? (i := 1955) (by decide +kernel)) rfl
theorem gm_M254 : (.selects RX13 yX13_lawOf yX13_lawOf : Cond) ∈ gT := gT_of (List.mem_of_getElem? (i := 123) (by decide +kernel)) rfl
theorem gm_M255 : (.code yX13_lawOf cX13_lawOf 6 (some .int) : Cond) ∈ gT := gT_of (List.mem_of_getElem? (i := 1956) (by decide +kernel)) rfl
theorem gm_M256 : (.methodLink RX13 376 yX13_keeps : Cond) ∈ gT := gT_of (List.mem_of_getElem? (i := 1937) (by decide +kernel)) rfl
theorem gm_M257 : (.instanceMethod yX13_keeps : Cond) ∈ gT := gT_of (List.mem_of_getElem? (i := 1939) (by decide +kernel)) rfl
theorem gm_M258 : (.selects RX13 yX13_keeps yX13_keeps : Cond) ∈ gT := gT_of (List.mem_of_getElem? (i := 119) (by decide +kernel)) rfl
theorem gm_M259 : (.code yX13_keeps cX13_keeps 2 none : Cond) ∈ gT := gT_of (List.mem_of_getElem? (i := 1940) (by decide +kernel)) rfl
theorem gm_M260 : (.methodLink RX13 379 yX13_weds : Cond) ∈ gT := gT_of (List.mem_of_getElem? (i := 1945) (by decide +kernel)) rfl
theorem gm_M261 : (.instanceMethod yX13_weds : Cond) ∈ gT := gT_of (List.mem_of_getElem? (i := 1947) (by decide +kernel)) rfl
theorem gm_M262 : (.selects RX13 yX13_weds yX13_weds : Cond) ∈ gT := gT_of (List.mem_of_getElem? (i := 121) (by decide +kernel)) rfl
theorem gm_M263 : (.code yX13_weds cX13_weds 5 (some .int) : Cond) ∈ gT := gT_of (List.mem_of_getElem? (i := 1948) (by decide +kernel)) rfl
theorem gm_M264 : (.methodLink RX13 382 yX13_passes : Cond) ∈ gT := gT_of (List.mem_of_getElem? (i := 1972) (by decide +kernel)) rfl
theorem gm_M265 : (.instanceMethod yX13_passes : Cond) ∈ gT := gT_of (List.mem_of_getElem? (i := 1974) (by decide +kernel)) rfl
theorem gm_M266 : (.selects RX13 yX13_passes yX13_passes : Cond) ∈ gT := gT_of (List.mem_of_getElem? (i := 125) (by decide +kernel)) rfl
theorem gm_M267 : (.code yX13_passes cX13_passes 3 none : Cond) ∈ gT := gT_of (List.mem_of_getElem? (i := 1975) (by decide +kernel)) rfl
theorem gm_M268 : (.methodLink RX13 385 yX13_areServed : Cond) ∈ gT := gT_of (List.mem_of_getElem? (i := 1984) (by decide +kernel)) rfl
theorem gm_M269 : (.instanceMethod yX13_areServed : Cond) ∈ gT := gT_of (List.mem_of_getElem? (i := 1986) (by decide +kernel)) rfl
theorem gm_M270 : (.selects RX13 yX13_areServed yX13_areServed : Cond) ∈ gT := gT_of (List.mem_of_getElem? (i := 126) (by decide +kernel)) rfl
theorem gm_M271 : (.code yX13_areServed cX13_areServed 5 (some .boolean) : Cond) ∈ gT := gT_of (List.mem_of_getElem? (i := 1987) (by decide +kernel)) rfl
theorem gm_M272 : (.methodLink RX13 388 yX13_weddings : Cond) ∈ gT := gT_of (List.mem_of_getElem? (i := 1988) (by decide +kernel)) rfl
theorem gm_M273 : (.instanceMethod yX13_weddings : Cond) ∈ gT := gT_of (List.mem_of_getElem? (i := 1990) (by decide +kernel)) rfl
theorem gm_M274 : (.selects RX13 yX13_weddings yX13_weddings : Cond) ∈ gT := gT_of (List.mem_of_getElem? (i := 127) (by decide +kernel)) rfl
theorem gm_M275 : (.code yX13_weddings cX13_weddings 4 (some .int) : Cond) ∈ gT := gT_of (List.mem_of_getElem? (i := 1991) (by decide +kernel)) rfl
theorem gm_M276 : (.methodLink RX13 391 yX13_wornBy : Cond) ∈ gT := gT_of (List.mem_of_getElem? (i := 1996) (by decide +kernel)) rfl
theorem gm_M277 : (.instanceMethod yX13_wornBy : Cond) ∈ gT := gT_of (List.mem_of_getElem? (i := 1998) (by decide +kernel)) rfl
theorem gm_M278 : (.selects RX13 yX13_wornBy yX13_wornBy : Cond) ∈ gT := gT_of (List.mem_of_getElem? (i := 128) (by decide +kernel)) rfl
theorem gm_M279 : (.code yX13_wornBy cX13_wornBy 6 (some .int) : Cond) ∈ gT := gT_of (List.mem_of_getElem? (i := 1999) (by decide +kernel)) rfl
theorem gm_M280 : (.methodLink RX13 394 yX13_bits : Cond) ∈ gT := gT_of (List.mem_of_getElem? (i := 2008) (by decide +kernel)) rfl
theorem gm_M281 : (.static yX13_bits : Cond) ∈ gT := gT_of (List.mem_of_getElem? (i := 2009) (by decide +kernel)) rfl
theorem gm_M282 : (.code yX13_bits cX13_bits 3 (some .int) : Cond) ∈ gT := gT_of (List.mem_of_getElem? (i := 2010) (by decide +kernel)) rfl
theorem gm_M283 : (.fieldLink RX13 397 "RiverVowsModel" "sought" "I" : Cond) ∈ gT := gT_of (List.mem_of_getElem? (i := 1599) (by decide +kernel)) rfl
theorem gm_M284 : (.methodLink RX13 400 yX13_isServedAlways : Cond) ∈ gT := gT_of (List.mem_of_getElem? (i := 2027) (by decide +kernel)) rfl
theorem gm_M285 : (.instanceMethod yX13_isServedAlways : Cond) ∈ gT := gT_of (List.mem_of_getElem? (i := 2029) (by decide +kernel)) rfl
theorem gm_M286 : (.selects RX13 yX13_isServedAlways yX13_isServedAlways : Cond) ∈ gT := gT_of (List.mem_of_getElem? (i := 132) (by decide +kernel)) rfl
theorem gm_M287 : (.code yX13_isServedAlways cX13_isServedAlways 3 (some .boolean) : Cond) ∈ gT := gT_of (List.mem_of_getElem? (i := 2030) (by decide +kernel)) rfl
theorem gm_M288 : (.methodLink RX13 403 yX13_fitsTold : Cond) ∈ gT := gT_of (List.mem_of_getElem? (i := 2031) (by decide +kernel)) rfl
theorem gm_M289 : (.instanceMethod yX13_fitsTold : Cond) ∈ gT := gT_of (List.mem_of_getElem? (i := 2033) (by decide +kernel)) rfl
theorem gm_M290 : (.selects RX13 yX13_fitsTold yX13_fitsTold : Cond) ∈ gT := gT_of (List.mem_of_getElem? (i := 133) (by decide +kernel)) rfl
theorem gm_M291 : (.code yX13_fitsTold cX13_fitsTold 4 (some .boolean) : Cond) ∈ gT := gT_of (List.mem_of_getElem? (i := 2034) (by decide +kernel)) rfl
theorem gm_M292 : (.methodLink RX13 406 yX13_digsIn : Cond) ∈ gT := gT_of (List.mem_of_getElem? (i := 2035) (by decide +kernel)) rfl
theorem gm_M293 : (.instanceMethod yX13_digsIn : Cond) ∈ gT := gT_of (List.mem_of_getElem? (i := 2037) (by decide +kernel)) rfl
theorem gm_M294 : (.selects RX13 yX13_digsIn yX13_digsIn : Cond) ∈ gT := gT_of (List.mem_of_getElem? (i := 134) (by decide +kernel)) rfl
theorem gm_M295 : (.code yX13_digsIn cX13_digsIn 4 (some .int) : Cond) ∈ gT := gT_of (List.mem_of_getElem? (i := 2038) (by decide +kernel)) rfl
theorem gm_M296 : (.fieldLink RX13 409 "RiverVowsModel" "ways" "I" : Cond) ∈ gT := gT_of (List.mem_of_getElem? (i := 1600) (by decide +kernel)) rfl
theorem gm_M297 : (.fieldLink RX13 412 "RiverVowsModel" "bestDig" "I" : Cond) ∈ gT := gT_of (List.mem_of_getElem? (i := 1601) (by decide +kernel)) rfl
theorem gm_M298 : (.fieldLink RX13 415 "RiverVowsModel" "bestMany" "I" : Cond) ∈ gT := gT_of (List.mem_of_getElem? (i := 1602) (by decide +kernel)) rfl
theorem gm_M299 : (.fieldLink RX13 139 "RiverVowsModel" "inAll" "[I" : Cond) ∈ gT := gT_of (List.mem_of_getElem? (i := 1604) (by decide +kernel)) rfl
theorem gm_M300 : (.fieldLink RX13 136 "RiverVowsModel" "bestRow" "[I" : Cond) ∈ gT := gT_of (List.mem_of_getElem? (i := 1603) (by decide +kernel)) rfl
theorem gm_M301 : (.fieldLink RX13 142 "RiverVowsModel" "counts" "[I" : Cond) ∈ gT := gT_of (List.mem_of_getElem? (i := 1605) (by decide +kernel)) rfl
theorem gm_M302 : (.methodLink RX13 418 yX13_looks : Cond) ∈ gT := gT_of (List.mem_of_getElem? (i := 2023) (by decide +kernel)) rfl
theorem gm_M303 : (.instanceMethod yX13_looks : Cond) ∈ gT := gT_of (List.mem_of_getElem? (i := 2025) (by decide +kernel)) rfl
theorem gm_M304 : (.selects RX13 yX13_looks yX13_looks : Cond) ∈ gT := gT_of (List.mem_of_getElem? (i := 131) (by decide +kernel)) rfl
theorem gm_M305 : (.code yX13_looks cX13_looks 7 none : Cond) ∈ gT := gT_of (List.mem_of_getElem? (i := 2026) (by decide +kernel)) rfl
theorem gm_M306 : (.methodLink RX13 421 yX13_goesThrough : Cond) ∈ gT := gT_of (List.mem_of_getElem? (i := 2019) (by decide +kernel)) rfl
theorem gm_M307 : (.instanceMethod yX13_goesThrough : Cond) ∈ gT := gT_of (List.mem_of_getElem? (i := 2021) (by decide +kernel)) rfl
theorem gm_M308 : (.selects RX13 yX13_goesThrough yX13_goesThrough : Cond) ∈ gT := gT_of (List.mem_of_getElem? (i := 130) (by decide +kernel)) rfl
theorem gm_M309 : (.code yX13_goesThrough cX13_goesThrough 3 none : Cond) ∈ gT := gT_of (List.mem_of_getElem? (i := 2022) (by decide +kernel)) rfl
theorem gm_M310 : (.methodLink RX13 424 yX13_seeks : Cond) ∈ gT := gT_of (List.mem_of_getElem? (i := 2015) (by decide +kernel)) rfl
theorem gm_M311 : (.instanceMethod yX13_seeks : Cond) ∈ gT := gT_of (List.mem_of_getElem? (i := 2017) (by decide +kernel)) rfl
theorem gm_M312 : (.selects RX13 yX13_seeks yX13_seeks : Cond) ∈ gT := gT_of (List.mem_of_getElem? (i := 129) (by decide +kernel)) rfl
theorem gm_M313 : (.code yX13_seeks cX13_seeks 2 none : Cond) ∈ gT := gT_of (List.mem_of_getElem? (i := 2018) (by decide +kernel)) rfl
theorem gm_M314 : (.fieldLink RX13 145 "RiverVowsModel" "chain" "[I" : Cond) ∈ gT := gT_of (List.mem_of_getElem? (i := 1606) (by decide +kernel)) rfl
theorem gm_M315 : (.fieldLink RX13 427 "RiverVowsModel" "chainMany" "I" : Cond) ∈ gT := gT_of (List.mem_of_getElem? (i := 1609) (by decide +kernel)) rfl
theorem gm_M316 : (.fieldLink RX13 430 "RiverVowsModel" "chainDig" "I" : Cond) ∈ gT := gT_of (List.mem_of_getElem? (i := 1608) (by decide +kernel)) rfl
theorem gm_M317 : (.fieldLink RX13 148 "RiverVowsModel" "bestChain" "[I" : Cond) ∈ gT := gT_of (List.mem_of_getElem? (i := 1607) (by decide +kernel)) rfl
theorem gm_M318 : (.methodLink RX13 433 yX13_goesOn : Cond) ∈ gT := gT_of (List.mem_of_getElem? (i := 2043) (by decide +kernel)) rfl
theorem gm_M319 : (.instanceMethod yX13_goesOn : Cond) ∈ gT := gT_of (List.mem_of_getElem? (i := 2045) (by decide +kernel)) rfl
theorem gm_M320 : (.selects RX13 yX13_goesOn yX13_goesOn : Cond) ∈ gT := gT_of (List.mem_of_getElem? (i := 135) (by decide +kernel)) rfl
theorem gm_M321 : (.code yX13_goesOn cX13_goesOn 6 none : Cond) ∈ gT := gT_of (List.mem_of_getElem? (i := 2046) (by decide +kernel)) rfl
theorem gm_M322 : (.fieldLink RX13 151 "RiverVowsModel" "shares" "[I" : Cond) ∈ gT := gT_of (List.mem_of_getElem? (i := 1610) (by decide +kernel)) rfl
theorem gm_M323 : (.fieldLink RX13 154 "RiverVowsModel" "rests" "[I" : Cond) ∈ gT := gT_of (List.mem_of_getElem? (i := 1611) (by decide +kernel)) rfl
theorem gm_M324 : (.methodLink RX13 436 yX13_findShares : Cond) ∈ gT := gT_of (List.mem_of_getElem? (i := 2063) (by decide +kernel)) rfl
theorem gm_M325 : (.instanceMethod yX13_findShares : Cond) ∈ gT := gT_of (List.mem_of_getElem? (i := 2065) (by decide +kernel)) rfl
theorem gm_M326 : (.selects RX13 yX13_findShares yX13_findShares : Cond) ∈ gT := gT_of (List.mem_of_getElem? (i := 136) (by decide +kernel)) rfl
theorem gm_M327 : (.code yX13_findShares cX13_findShares 7 none : Cond) ∈ gT := gT_of (List.mem_of_getElem? (i := 2066) (by decide +kernel)) rfl
theorem gm_M328 : (.constantLong RX13 439 (1000000) : Cond) ∈ gT := gT_of (List.mem_of_getElem? (i := 2079) (by decide +kernel)) rfl
theorem gm_M329 : (.methodLink RX13 441 yX13_hasTown : Cond) ∈ gT := gT_of (List.mem_of_getElem? (i := 2071) (by decide +kernel)) rfl
theorem gm_M330 : (.instanceMethod yX13_hasTown : Cond) ∈ gT := gT_of (List.mem_of_getElem? (i := 2073) (by decide +kernel)) rfl
theorem gm_M331 : (.selects RX13 yX13_hasTown yX13_hasTown : Cond) ∈ gT := gT_of (List.mem_of_getElem? (i := 137) (by decide +kernel)) rfl
theorem gm_M332 : (.code yX13_hasTown cX13_hasTown 3 (some .boolean) : Cond) ∈ gT := gT_of (List.mem_of_getElem? (i := 2074) (by decide +kernel)) rfl
theorem gm_M333 : (.methodLink RX13 444 yX13_floods : Cond) ∈ gT := gT_of (List.mem_of_getElem? (i := 2075) (by decide +kernel)) rfl
theorem gm_M334 : (.instanceMethod yX13_floods : Cond) ∈ gT := gT_of (List.mem_of_getElem? (i := 2077) (by decide +kernel)) rfl
theorem gm_M335 : (.selects RX13 yX13_floods yX13_floods : Cond) ∈ gT := gT_of (List.mem_of_getElem? (i := 138) (by decide +kernel)) rfl
theorem gm_M336 : (.code yX13_floods cX13_floods 15 (some .int) : Cond) ∈ gT := gT_of (List.mem_of_getElem? (i := 2078) (by decide +kernel)) rfl
theorem gm_M337 : (.constant RX13 447 (1000000) : Cond) ∈ gT := gT_of (List.mem_of_getElem? (i := 2084) (by decide +kernel)) rfl
theorem gm_M338 : (.methodLink RX13 448 yX13_tellsMost : Cond) ∈ gT := gT_of (List.mem_of_getElem? (i := 2097) (by decide +kernel)) rfl
theorem gm_M339 : (.instanceMethod yX13_tellsMost : Cond) ∈ gT := gT_of (List.mem_of_getElem? (i := 2099) (by decide +kernel)) rfl
theorem gm_M340 : (.selects RX13 yX13_tellsMost yX13_tellsMost : Cond) ∈ gT := gT_of (List.mem_of_getElem? (i := 139) (by decide +kernel)) rfl
theorem gm_M341 : (.code yX13_tellsMost cX13_tellsMost 6 (some .int) : Cond) ∈ gT := gT_of (List.mem_of_getElem? (i := 2100) (by decide +kernel)) rfl
theorem gm_M342 : (.methodLink RX13 451 yX13_bidGets : Cond) ∈ gT := gT_of (List.mem_of_getElem? (i := 2105) (by decide +kernel)) rfl
theorem gm_M343 : (.static yX13_bidGets : Cond) ∈ gT := gT_of (List.mem_of_getElem? (i := 2106) (by decide +kernel)) rfl
theorem gm_M344 : (.code yX13_bidGets cX13_bidGets 4 (some .int) : Cond) ∈ gT := gT_of (List.mem_of_getElem? (i := 2107) (by decide +kernel)) rfl
theorem gm_M345 : (.fieldLink RX13 157 "RiverVowsModel" "wins" "[Z" : Cond) ∈ gT := gT_of (List.mem_of_getElem? (i := 1612) (by decide +kernel)) rfl
theorem gm_M346 : (.methodLink RX13 455 yX13_isLosing : Cond) ∈ gT := gT_of (List.mem_of_getElem? (i := 2112) (by decide +kernel)) rfl
theorem gm_M347 : (.instanceMethod yX13_isLosing : Cond) ∈ gT := gT_of (List.mem_of_getElem? (i := 2114) (by decide +kernel)) rfl
theorem gm_M348 : (.selects RX13 yX13_isLosing yX13_isLosing : Cond) ∈ gT := gT_of (List.mem_of_getElem? (i := 140) (by decide +kernel)) rfl
theorem gm_M349 : (.code yX13_isLosing cX13_isLosing 3 (some .boolean) : Cond) ∈ gT := gT_of (List.mem_of_getElem? (i := 2115) (by decide +kernel)) rfl
theorem gm_M350 : (.fieldLink RX13 458 "RiverVowsModel" "g" "J" : Cond) ∈ gT := gT_of (List.mem_of_getElem? (i := 1613) (by decide +kernel)) rfl
theorem gm_M351 : (.constantLong RX13 462 (1103515245) : Cond) ∈ gT := gT_of (List.mem_of_getElem? (i := 2124) (by decide +kernel)) rfl
theorem gm_M352 : (.constantLong RX13 464 (12345) : Cond) ∈ gT := gT_of (List.mem_of_getElem? (i := 2125) (by decide +kernel)) rfl
theorem gm_M353 : (.constantLong RX13 466 (2147483648) : Cond) ∈ gT := gT_of (List.mem_of_getElem? (i := 2126) (by decide +kernel)) rfl
theorem gm_M354 : (.constantLong RX13 468 (65536) : Cond) ∈ gT := gT_of (List.mem_of_getElem? (i := 2127) (by decide +kernel)) rfl
theorem gm_M355 : (.methodLink RX13 470 yX13_draw : Cond) ∈ gT := gT_of (List.mem_of_getElem? (i := 2120) (by decide +kernel)) rfl
theorem gm_M356 : (.instanceMethod yX13_draw : Cond) ∈ gT := gT_of (List.mem_of_getElem? (i := 2122) (by decide +kernel)) rfl
theorem gm_M357 : (.selects RX13 yX13_draw yX13_draw : Cond) ∈ gT := gT_of (List.mem_of_getElem? (i := 141) (by decide +kernel)) rfl
theorem gm_M358 : (.code yX13_draw cX13_draw 2 (some .int) : Cond) ∈ gT := gT_of (List.mem_of_getElem? (i := 2123) (by decide +kernel)) rfl
