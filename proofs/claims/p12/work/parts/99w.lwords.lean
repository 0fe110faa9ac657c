theorem lm_0 : (.constantLong RL 22 4294967295 : Cond) ∈ gT := gT_of (List.mem_of_getElem? (i := 2136) (by decide +kernel)) rfl
theorem lm_1 : (.methodLink RL 24 yX12_feed : Cond) ∈ gT := gT_of (List.mem_of_getElem? (i := 627) (by decide +kernel)) rfl
theorem lm_2 : (.instanceMethod yX12_feed : Cond) ∈ gT := gT_of (List.mem_of_getElem? (i := 628) (by decide +kernel)) rfl
theorem lm_3 : (.selects RX12 yX12_feed yX12_feed : Cond) ∈ gT := gT_of (List.mem_of_getElem? (i := 629) (by decide +kernel)) rfl
theorem lm_4 : (.initialized RX12 : Cond) ∈ gT := gT_of (List.mem_of_getElem? (i := 143) (by decide +kernel)) rfl
theorem lm_5 : (.code yX12_feed cX12_feed 7 (some .int) : Cond) ∈ gT := gT_of (List.mem_of_getElem? (i := 630) (by decide +kernel)) rfl
theorem lm_6 : (.methodLink RL 28 yX13_feed : Cond) ∈ gT := gT_of (List.mem_of_getElem? (i := 1515) (by decide +kernel)) rfl
theorem lm_7 : (.instanceMethod yX13_feed : Cond) ∈ gT := gT_of (List.mem_of_getElem? (i := 1516) (by decide +kernel)) rfl
theorem lm_8 : (.selects RX13 yX13_feed yX13_feed : Cond) ∈ gT := gT_of (List.mem_of_getElem? (i := 1517) (by decide +kernel)) rfl
theorem lm_9 : (.initialized RX13 : Cond) ∈ gT := gT_of (List.mem_of_getElem? (i := 154) (by decide +kernel)) rfl
theorem lm_10 : (.code yX13_feed cX13_feed 7 (some .int) : Cond) ∈ gT := gT_of (List.mem_of_getElem? (i := 1518) (by decide +kernel)) rfl
theorem lm_11 : (.methodLink RL 29 yX12_land : Cond) ∈ gT := gT_of (List.mem_of_getElem? (i := 639) (by decide +kernel)) rfl
theorem lm_12 : (.instanceMethod yX12_land : Cond) ∈ gT := gT_of (List.mem_of_getElem? (i := 640) (by decide +kernel)) rfl
theorem lm_13 : (.selects RX12 yX12_land yX12_land : Cond) ∈ gT := gT_of (List.mem_of_getElem? (i := 641) (by decide +kernel)) rfl
theorem lm_14 : (.code yX12_land cX12_land 3 (some .int) : Cond) ∈ gT := gT_of (List.mem_of_getElem? (i := 642) (by decide +kernel)) rfl
theorem lm_15 : (.methodLink RL 33 yX13_land : Cond) ∈ gT := gT_of (List.mem_of_getElem? (i := 1700) (by decide +kernel)) rfl
theorem lm_16 : (.instanceMethod yX13_land : Cond) ∈ gT := gT_of (List.mem_of_getElem? (i := 1701) (by decide +kernel)) rfl
theorem lm_17 : (.selects RX13 yX13_land yX13_land : Cond) ∈ gT := gT_of (List.mem_of_getElem? (i := 1702) (by decide +kernel)) rfl
theorem lm_18 : (.code yX13_land cX13_land 2 (some .int) : Cond) ∈ gT := gT_of (List.mem_of_getElem? (i := 1703) (by decide +kernel)) rfl
theorem lm_19 : (.methodLink RL 34 yX12_vows : Cond) ∈ gT := gT_of (List.mem_of_getElem? (i := 997) (by decide +kernel)) rfl
theorem lm_20 : (.instanceMethod yX12_vows : Cond) ∈ gT := gT_of (List.mem_of_getElem? (i := 998) (by decide +kernel)) rfl
theorem lm_21 : (.selects RX12 yX12_vows yX12_vows : Cond) ∈ gT := gT_of (List.mem_of_getElem? (i := 999) (by decide +kernel)) rfl
theorem lm_22 : (.code yX12_vows cX12_vows 2 (some .int) : Cond) ∈ gT := gT_of (List.mem_of_getElem? (i := 1000) (by decide +kernel)) rfl
theorem lm_23 : (.methodLink RL 37 yX13_vows : Cond) ∈ gT := gT_of (List.mem_of_getElem? (i := 1814) (by decide +kernel)) rfl
theorem lm_24 : (.instanceMethod yX13_vows : Cond) ∈ gT := gT_of (List.mem_of_getElem? (i := 1815) (by decide +kernel)) rfl
theorem lm_25 : (.selects RX13 yX13_vows yX13_vows : Cond) ∈ gT := gT_of (List.mem_of_getElem? (i := 1816) (by decide +kernel)) rfl
theorem lm_26 : (.code yX13_vows cX13_vows 5 (some .int) : Cond) ∈ gT := gT_of (List.mem_of_getElem? (i := 1817) (by decide +kernel)) rfl
theorem lm_27 : (.methodLink RL 38 yX12_will : Cond) ∈ gT := gT_of (List.mem_of_getElem? (i := 1025) (by decide +kernel)) rfl
theorem lm_28 : (.instanceMethod yX12_will : Cond) ∈ gT := gT_of (List.mem_of_getElem? (i := 1026) (by decide +kernel)) rfl
theorem lm_29 : (.selects RX12 yX12_will yX12_will : Cond) ∈ gT := gT_of (List.mem_of_getElem? (i := 1027) (by decide +kernel)) rfl
theorem lm_30 : (.code yX12_will cX12_will 2 (some .int) : Cond) ∈ gT := gT_of (List.mem_of_getElem? (i := 1028) (by decide +kernel)) rfl
theorem lm_31 : (.methodLink RL 41 yX13_will : Cond) ∈ gT := gT_of (List.mem_of_getElem? (i := 1818) (by decide +kernel)) rfl
theorem lm_32 : (.instanceMethod yX13_will : Cond) ∈ gT := gT_of (List.mem_of_getElem? (i := 1819) (by decide +kernel)) rfl
theorem lm_33 : (.selects RX13 yX13_will yX13_will : Cond) ∈ gT := gT_of (List.mem_of_getElem? (i := 1820) (by decide +kernel)) rfl
theorem lm_34 : (.code yX13_will cX13_will 3 (some .int) : Cond) ∈ gT := gT_of (List.mem_of_getElem? (i := 1821) (by decide +kernel)) rfl
theorem lm_35 : (.methodLink RL 48 yX12_flow : Cond) ∈ gT := gT_of (List.mem_of_getElem? (i := 1039) (by decide +kernel)) rfl
theorem lm_36 : (.instanceMethod yX12_flow : Cond) ∈ gT := gT_of (List.mem_of_getElem? (i := 1040) (by decide +kernel)) rfl
theorem lm_37 : (.selects RX12 yX12_flow yX12_flow : Cond) ∈ gT := gT_of (List.mem_of_getElem? (i := 1041) (by decide +kernel)) rfl
theorem lm_38 : (.code yX12_flow cX12_flow 5 (some .int) : Cond) ∈ gT := gT_of (List.mem_of_getElem? (i := 1042) (by decide +kernel)) rfl
theorem lm_39 : (.methodLink RL 52 yX13_flow : Cond) ∈ gT := gT_of (List.mem_of_getElem? (i := 1849) (by decide +kernel)) rfl
theorem lm_40 : (.instanceMethod yX13_flow : Cond) ∈ gT := gT_of (List.mem_of_getElem? (i := 1850) (by decide +kernel)) rfl
theorem lm_41 : (.selects RX13 yX13_flow yX13_flow : Cond) ∈ gT := gT_of (List.mem_of_getElem? (i := 1851) (by decide +kernel)) rfl
theorem lm_42 : (.code yX13_flow cX13_flow 4 (some .int) : Cond) ∈ gT := gT_of (List.mem_of_getElem? (i := 1852) (by decide +kernel)) rfl
theorem lm_43 : (.methodLink RL 53 yX12_needs : Cond) ∈ gT := gT_of (List.mem_of_getElem? (i := 1078) (by decide +kernel)) rfl
theorem lm_44 : (.instanceMethod yX12_needs : Cond) ∈ gT := gT_of (List.mem_of_getElem? (i := 1079) (by decide +kernel)) rfl
theorem lm_45 : (.selects RX12 yX12_needs yX12_needs : Cond) ∈ gT := gT_of (List.mem_of_getElem? (i := 1080) (by decide +kernel)) rfl
theorem lm_46 : (.code yX12_needs cX12_needs 2 (some .int) : Cond) ∈ gT := gT_of (List.mem_of_getElem? (i := 1081) (by decide +kernel)) rfl
theorem lm_47 : (.methodLink RL 57 yX13_needs : Cond) ∈ gT := gT_of (List.mem_of_getElem? (i := 1881) (by decide +kernel)) rfl
theorem lm_48 : (.instanceMethod yX13_needs : Cond) ∈ gT := gT_of (List.mem_of_getElem? (i := 1882) (by decide +kernel)) rfl
theorem lm_49 : (.selects RX13 yX13_needs yX13_needs : Cond) ∈ gT := gT_of (List.mem_of_getElem? (i := 1883) (by decide +kernel)) rfl
theorem lm_50 : (.code yX13_needs cX13_needs 5 (some .int) : Cond) ∈ gT := gT_of (List.mem_of_getElem? (i := 1884) (by decide +kernel)) rfl
theorem lm_51 : (.methodLink RL 58 yX12_near : Cond) ∈ gT := gT_of (List.mem_of_getElem? (i := 1096) (by decide +kernel)) rfl
theorem lm_52 : (.instanceMethod yX12_near : Cond) ∈ gT := gT_of (List.mem_of_getElem? (i := 1097) (by decide +kernel)) rfl
theorem lm_53 : (.selects RX12 yX12_near yX12_near : Cond) ∈ gT := gT_of (List.mem_of_getElem? (i := 1098) (by decide +kernel)) rfl
theorem lm_54 : (.code yX12_near cX12_near 3 (some .int) : Cond) ∈ gT := gT_of (List.mem_of_getElem? (i := 1099) (by decide +kernel)) rfl
theorem lm_55 : (.methodLink RL 61 yX13_near : Cond) ∈ gT := gT_of (List.mem_of_getElem? (i := 1897) (by decide +kernel)) rfl
theorem lm_56 : (.instanceMethod yX13_near : Cond) ∈ gT := gT_of (List.mem_of_getElem? (i := 1898) (by decide +kernel)) rfl
theorem lm_57 : (.selects RX13 yX13_near yX13_near : Cond) ∈ gT := gT_of (List.mem_of_getElem? (i := 1899) (by decide +kernel)) rfl
theorem lm_58 : (.code yX13_near cX13_near 3 (some .int) : Cond) ∈ gT := gT_of (List.mem_of_getElem? (i := 1900) (by decide +kernel)) rfl
theorem lm_59 : (.methodLink RL 62 yX12_dig : Cond) ∈ gT := gT_of (List.mem_of_getElem? (i := 1101) (by decide +kernel)) rfl
theorem lm_60 : (.instanceMethod yX12_dig : Cond) ∈ gT := gT_of (List.mem_of_getElem? (i := 1102) (by decide +kernel)) rfl
theorem lm_61 : (.selects RX12 yX12_dig yX12_dig : Cond) ∈ gT := gT_of (List.mem_of_getElem? (i := 1103) (by decide +kernel)) rfl
theorem lm_62 : (.code yX12_dig cX12_dig 3 (some .int) : Cond) ∈ gT := gT_of (List.mem_of_getElem? (i := 1104) (by decide +kernel)) rfl
theorem lm_63 : (.methodLink RL 65 yX13_dig : Cond) ∈ gT := gT_of (List.mem_of_getElem? (i := 1905) (by decide +kernel)) rfl
theorem lm_64 : (.instanceMethod yX13_dig : Cond) ∈ gT := gT_of (List.mem_of_getElem? (i := 1906) (by decide +kernel)) rfl
theorem lm_65 : (.selects RX13 yX13_dig yX13_dig : Cond) ∈ gT := gT_of (List.mem_of_getElem? (i := 1907) (by decide +kernel)) rfl
theorem lm_66 : (.code yX13_dig cX13_dig 3 (some .int) : Cond) ∈ gT := gT_of (List.mem_of_getElem? (i := 1908) (by decide +kernel)) rfl
theorem lm_67 : (.methodLink RL 66 yX12_may : Cond) ∈ gT := gT_of (List.mem_of_getElem? (i := 1120) (by decide +kernel)) rfl
theorem lm_68 : (.instanceMethod yX12_may : Cond) ∈ gT := gT_of (List.mem_of_getElem? (i := 1121) (by decide +kernel)) rfl
theorem lm_69 : (.selects RX12 yX12_may yX12_may : Cond) ∈ gT := gT_of (List.mem_of_getElem? (i := 1122) (by decide +kernel)) rfl
theorem lm_70 : (.code yX12_may cX12_may 5 (some .int) : Cond) ∈ gT := gT_of (List.mem_of_getElem? (i := 1123) (by decide +kernel)) rfl
theorem lm_71 : (.methodLink RL 69 yX13_may : Cond) ∈ gT := gT_of (List.mem_of_getElem? (i := 1917) (by decide +kernel)) rfl
theorem lm_72 : (.instanceMethod yX13_may : Cond) ∈ gT := gT_of (List.mem_of_getElem? (i := 1918) (by decide +kernel)) rfl
theorem lm_73 : (.selects RX13 yX13_may yX13_may : Cond) ∈ gT := gT_of (List.mem_of_getElem? (i := 1919) (by decide +kernel)) rfl
theorem lm_74 : (.code yX13_may cX13_may 2 (some .int) : Cond) ∈ gT := gT_of (List.mem_of_getElem? (i := 1920) (by decide +kernel)) rfl
theorem lm_75 : (.methodLink RL 70 yX12_ends : Cond) ∈ gT := gT_of (List.mem_of_getElem? (i := 1128) (by decide +kernel)) rfl
theorem lm_76 : (.instanceMethod yX12_ends : Cond) ∈ gT := gT_of (List.mem_of_getElem? (i := 1129) (by decide +kernel)) rfl
theorem lm_77 : (.selects RX12 yX12_ends yX12_ends : Cond) ∈ gT := gT_of (List.mem_of_getElem? (i := 1130) (by decide +kernel)) rfl
theorem lm_78 : (.code yX12_ends cX12_ends 4 (some .int) : Cond) ∈ gT := gT_of (List.mem_of_getElem? (i := 1131) (by decide +kernel)) rfl
theorem lm_79 : (.methodLink RL 73 yX13_ends : Cond) ∈ gT := gT_of (List.mem_of_getElem? (i := 1929) (by decide +kernel)) rfl
theorem lm_80 : (.instanceMethod yX13_ends : Cond) ∈ gT := gT_of (List.mem_of_getElem? (i := 1930) (by decide +kernel)) rfl
theorem lm_81 : (.selects RX13 yX13_ends yX13_ends : Cond) ∈ gT := gT_of (List.mem_of_getElem? (i := 1931) (by decide +kernel)) rfl
theorem lm_82 : (.code yX13_ends cX13_ends 4 (some .int) : Cond) ∈ gT := gT_of (List.mem_of_getElem? (i := 1932) (by decide +kernel)) rfl
theorem lm_83 : (.methodLink RL 74 yX12_wed : Cond) ∈ gT := gT_of (List.mem_of_getElem? (i := 1136) (by decide +kernel)) rfl
theorem lm_84 : (.instanceMethod yX12_wed : Cond) ∈ gT := gT_of (List.mem_of_getElem? (i := 1137) (by decide +kernel)) rfl
theorem lm_85 : (.selects RX12 yX12_wed yX12_wed : Cond) ∈ gT := gT_of (List.mem_of_getElem? (i := 1138) (by decide +kernel)) rfl
theorem lm_86 : (.code yX12_wed cX12_wed 5 (some .int) : Cond) ∈ gT := gT_of (List.mem_of_getElem? (i := 1139) (by decide +kernel)) rfl
theorem lm_87 : (.methodLink RL 77 yX13_wed : Cond) ∈ gT := gT_of (List.mem_of_getElem? (i := 1933) (by decide +kernel)) rfl
theorem lm_88 : (.instanceMethod yX13_wed : Cond) ∈ gT := gT_of (List.mem_of_getElem? (i := 1934) (by decide +kernel)) rfl
theorem lm_89 : (.selects RX13 yX13_wed yX13_wed : Cond) ∈ gT := gT_of (List.mem_of_getElem? (i := 1935) (by decide +kernel)) rfl
theorem lm_90 : (.code yX13_wed cX13_wed 3 (some .int) : Cond) ∈ gT := gT_of (List.mem_of_getElem? (i := 1936) (by decide +kernel)) rfl
theorem lm_91 : (.methodLink RL 78 yX12_part : Cond) ∈ gT := gT_of (List.mem_of_getElem? (i := 1172) (by decide +kernel)) rfl
theorem lm_92 : (.instanceMethod yX12_part : Cond) ∈ gT := gT_of (List.mem_of_getElem? (i := 1173) (by decide +kernel)) rfl
theorem lm_93 : (.selects RX12 yX12_part yX12_part : Cond) ∈ gT := gT_of (List.mem_of_getElem? (i := 1174) (by decide +kernel)) rfl
theorem lm_94 : (.code yX12_part cX12_part 2 (some .boolean) : Cond) ∈ gT := gT_of (List.mem_of_getElem? (i := 1175) (by decide +kernel)) rfl
theorem lm_95 : (.methodLink RL 82 yX13_part : Cond) ∈ gT := gT_of (List.mem_of_getElem? (i := 1964) (by decide +kernel)) rfl
theorem lm_96 : (.instanceMethod yX13_part : Cond) ∈ gT := gT_of (List.mem_of_getElem? (i := 1965) (by decide +kernel)) rfl
theorem lm_97 : (.selects RX13 yX13_part yX13_part : Cond) ∈ gT := gT_of (List.mem_of_getElem? (i := 1966) (by decide +kernel)) rfl
theorem lm_98 : (.code yX13_part cX13_part 2 (some .boolean) : Cond) ∈ gT := gT_of (List.mem_of_getElem? (i := 1967) (by decide +kernel)) rfl
theorem lm_99 : (.methodLink RL 83 yX12_seasons : Cond) ∈ gT := gT_of (List.mem_of_getElem? (i := 1176) (by decide +kernel)) rfl
theorem lm_100 : (.instanceMethod yX12_seasons : Cond) ∈ gT := gT_of (List.mem_of_getElem? (i := 1177) (by decide +kernel)) rfl
theorem lm_101 : (.selects RX12 yX12_seasons yX12_seasons : Cond) ∈ gT := gT_of (List.mem_of_getElem? (i := 1178) (by decide +kernel)) rfl
theorem lm_102 : (.code yX12_seasons cX12_seasons 3 (some .int) : Cond) ∈ gT := gT_of (List.mem_of_getElem? (i := 1179) (by decide +kernel)) rfl
theorem lm_103 : (.methodLink RL 86 yX13_seasons : Cond) ∈ gT := gT_of (List.mem_of_getElem? (i := 1968) (by decide +kernel)) rfl
theorem lm_104 : (.instanceMethod yX13_seasons : Cond) ∈ gT := gT_of (List.mem_of_getElem? (i := 1969) (by decide +kernel)) rfl
theorem lm_105 : (.selects RX13 yX13_seasons yX13_seasons : Cond) ∈ gT := gT_of (List.mem_of_getElem? (i := 1970) (by decide +kernel)) rfl
theorem lm_106 : (.code yX13_seasons cX13_seasons 3 (some .int) : Cond) ∈ gT := gT_of (List.mem_of_getElem? (i := 1971) (by decide +kernel)) rfl
theorem lm_107 : (.methodLink RL 87 yX12_undo : Cond) ∈ gT := gT_of (List.mem_of_getElem? (i := 1188) (by decide +kernel)) rfl
theorem lm_108 : (.instanceMethod yX12_undo : Cond) ∈ gT := gT_of (List.mem_of_getElem? (i := 1189) (by decide +kernel)) rfl
theorem lm_109 : (.selects RX12 yX12_undo yX12_undo : Cond) ∈ gT := gT_of (List.mem_of_getElem? (i := 1190) (by decide +kernel)) rfl
theorem lm_110 : (.code yX12_undo cX12_undo 1 (some .boolean) : Cond) ∈ gT := gT_of (List.mem_of_getElem? (i := 1191) (by decide +kernel)) rfl
theorem lm_111 : (.methodLink RL 91 yX13_undo : Cond) ∈ gT := gT_of (List.mem_of_getElem? (i := 1976) (by decide +kernel)) rfl
theorem lm_112 : (.instanceMethod yX13_undo : Cond) ∈ gT := gT_of (List.mem_of_getElem? (i := 1977) (by decide +kernel)) rfl
theorem lm_113 : (.selects RX13 yX13_undo yX13_undo : Cond) ∈ gT := gT_of (List.mem_of_getElem? (i := 1978) (by decide +kernel)) rfl
theorem lm_114 : (.code yX13_undo cX13_undo 1 (some .boolean) : Cond) ∈ gT := gT_of (List.mem_of_getElem? (i := 1979) (by decide +kernel)) rfl
theorem lm_115 : (.methodLink RL 92 yX12_judged : Cond) ∈ gT := gT_of (List.mem_of_getElem? (i := 1201) (by decide +kernel)) rfl
theorem lm_116 : (.instanceMethod yX12_judged : Cond) ∈ gT := gT_of (List.mem_of_getElem? (i := 1202) (by decide +kernel)) rfl
theorem lm_117 : (.selects RX12 yX12_judged yX12_judged : Cond) ∈ gT := gT_of (List.mem_of_getElem? (i := 1203) (by decide +kernel)) rfl
theorem lm_118 : (.code yX12_judged cX12_judged 6 (some .int) : Cond) ∈ gT := gT_of (List.mem_of_getElem? (i := 1204) (by decide +kernel)) rfl
theorem lm_119 : (.methodLink RL 95 yX13_judged : Cond) ∈ gT := gT_of (List.mem_of_getElem? (i := 1980) (by decide +kernel)) rfl
theorem lm_120 : (.instanceMethod yX13_judged : Cond) ∈ gT := gT_of (List.mem_of_getElem? (i := 1981) (by decide +kernel)) rfl
theorem lm_121 : (.selects RX13 yX13_judged yX13_judged : Cond) ∈ gT := gT_of (List.mem_of_getElem? (i := 1982) (by decide +kernel)) rfl
theorem lm_122 : (.code yX13_judged cX13_judged 9 (some .int) : Cond) ∈ gT := gT_of (List.mem_of_getElem? (i := 1983) (by decide +kernel)) rfl
theorem lm_123 : (.methodLink RL 96 yX12_worn : Cond) ∈ gT := gT_of (List.mem_of_getElem? (i := 1228) (by decide +kernel)) rfl
theorem lm_124 : (.instanceMethod yX12_worn : Cond) ∈ gT := gT_of (List.mem_of_getElem? (i := 1229) (by decide +kernel)) rfl
theorem lm_125 : (.selects RX12 yX12_worn yX12_worn : Cond) ∈ gT := gT_of (List.mem_of_getElem? (i := 1230) (by decide +kernel)) rfl
theorem lm_126 : (.code yX12_worn cX12_worn 3 (some .int) : Cond) ∈ gT := gT_of (List.mem_of_getElem? (i := 1231) (by decide +kernel)) rfl
theorem lm_127 : (.methodLink RL 99 yX13_worn : Cond) ∈ gT := gT_of (List.mem_of_getElem? (i := 1992) (by decide +kernel)) rfl
theorem lm_128 : (.instanceMethod yX13_worn : Cond) ∈ gT := gT_of (List.mem_of_getElem? (i := 1993) (by decide +kernel)) rfl
theorem lm_129 : (.selects RX13 yX13_worn yX13_worn : Cond) ∈ gT := gT_of (List.mem_of_getElem? (i := 1994) (by decide +kernel)) rfl
theorem lm_130 : (.code yX13_worn cX13_worn 3 (some .int) : Cond) ∈ gT := gT_of (List.mem_of_getElem? (i := 1995) (by decide +kernel)) rfl
theorem lm_131 : (.methodLink RL 100 yX12_love : Cond) ∈ gT := gT_of (List.mem_of_getElem? (i := 1237) (by decide +kernel)) rfl
theorem lm_132 : (.instanceMethod yX12_love : Cond) ∈ gT := gT_of (List.mem_of_getElem? (i := 1238) (by decide +kernel)) rfl
theorem lm_133 : (.selects RX12 yX12_love yX12_love : Cond) ∈ gT := gT_of (List.mem_of_getElem? (i := 1239) (by decide +kernel)) rfl
theorem lm_134 : (.code yX12_love cX12_love 6 (some .int) : Cond) ∈ gT := gT_of (List.mem_of_getElem? (i := 1240) (by decide +kernel)) rfl
theorem lm_135 : (.methodLink RL 103 yX13_love : Cond) ∈ gT := gT_of (List.mem_of_getElem? (i := 2000) (by decide +kernel)) rfl
theorem lm_136 : (.instanceMethod yX13_love : Cond) ∈ gT := gT_of (List.mem_of_getElem? (i := 2001) (by decide +kernel)) rfl
theorem lm_137 : (.selects RX13 yX13_love yX13_love : Cond) ∈ gT := gT_of (List.mem_of_getElem? (i := 2002) (by decide +kernel)) rfl
theorem lm_138 : (.code yX13_love cX13_love 6 (some .int) : Cond) ∈ gT := gT_of (List.mem_of_getElem? (i := 2003) (by decide +kernel)) rfl
theorem lm_139 : (.methodLink RL 104 yX12_hyphen : Cond) ∈ gT := gT_of (List.mem_of_getElem? (i := 1241) (by decide +kernel)) rfl
theorem lm_140 : (.instanceMethod yX12_hyphen : Cond) ∈ gT := gT_of (List.mem_of_getElem? (i := 1242) (by decide +kernel)) rfl
theorem lm_141 : (.selects RX12 yX12_hyphen yX12_hyphen : Cond) ∈ gT := gT_of (List.mem_of_getElem? (i := 1243) (by decide +kernel)) rfl
theorem lm_142 : (.code yX12_hyphen cX12_hyphen 5 (some .int) : Cond) ∈ gT := gT_of (List.mem_of_getElem? (i := 1244) (by decide +kernel)) rfl
theorem lm_143 : (.methodLink RL 107 yX13_hyphen : Cond) ∈ gT := gT_of (List.mem_of_getElem? (i := 2004) (by decide +kernel)) rfl
theorem lm_144 : (.instanceMethod yX13_hyphen : Cond) ∈ gT := gT_of (List.mem_of_getElem? (i := 2005) (by decide +kernel)) rfl
theorem lm_145 : (.selects RX13 yX13_hyphen yX13_hyphen : Cond) ∈ gT := gT_of (List.mem_of_getElem? (i := 2006) (by decide +kernel)) rfl
theorem lm_146 : (.code yX13_hyphen cX13_hyphen 5 (some .int) : Cond) ∈ gT := gT_of (List.mem_of_getElem? (i := 2007) (by decide +kernel)) rfl
theorem lm_147 : (.methodLink RL 108 yX12_match : Cond) ∈ gT := gT_of (List.mem_of_getElem? (i := 1251) (by decide +kernel)) rfl
theorem lm_148 : (.instanceMethod yX12_match : Cond) ∈ gT := gT_of (List.mem_of_getElem? (i := 1252) (by decide +kernel)) rfl
theorem lm_149 : (.selects RX12 yX12_match yX12_match : Cond) ∈ gT := gT_of (List.mem_of_getElem? (i := 1253) (by decide +kernel)) rfl
theorem lm_150 : (.code yX12_match cX12_match 2 (some .int) : Cond) ∈ gT := gT_of (List.mem_of_getElem? (i := 1254) (by decide +kernel)) rfl
theorem lm_151 : (.methodLink RL 111 yX13_match : Cond) ∈ gT := gT_of (List.mem_of_getElem? (i := 2011) (by decide +kernel)) rfl
theorem lm_152 : (.instanceMethod yX13_match : Cond) ∈ gT := gT_of (List.mem_of_getElem? (i := 2012) (by decide +kernel)) rfl
theorem lm_153 : (.selects RX13 yX13_match yX13_match : Cond) ∈ gT := gT_of (List.mem_of_getElem? (i := 2013) (by decide +kernel)) rfl
theorem lm_154 : (.code yX13_match cX13_match 2 (some .int) : Cond) ∈ gT := gT_of (List.mem_of_getElem? (i := 2014) (by decide +kernel)) rfl
theorem lm_155 : (.methodLink RL 112 yX12_chain : Cond) ∈ gT := gT_of (List.mem_of_getElem? (i := 1311) (by decide +kernel)) rfl
theorem lm_156 : (.instanceMethod yX12_chain : Cond) ∈ gT := gT_of (List.mem_of_getElem? (i := 1312) (by decide +kernel)) rfl
theorem lm_157 : (.selects RX12 yX12_chain yX12_chain : Cond) ∈ gT := gT_of (List.mem_of_getElem? (i := 1313) (by decide +kernel)) rfl
theorem lm_158 : (.code yX12_chain cX12_chain 6 (some .int) : Cond) ∈ gT := gT_of (List.mem_of_getElem? (i := 1314) (by decide +kernel)) rfl
theorem lm_159 : (.methodLink RL 115 yX13_chain : Cond) ∈ gT := gT_of (List.mem_of_getElem? (i := 2039) (by decide +kernel)) rfl
theorem lm_160 : (.instanceMethod yX13_chain : Cond) ∈ gT := gT_of (List.mem_of_getElem? (i := 2040) (by decide +kernel)) rfl
theorem lm_161 : (.selects RX13 yX13_chain yX13_chain : Cond) ∈ gT := gT_of (List.mem_of_getElem? (i := 2041) (by decide +kernel)) rfl
theorem lm_162 : (.code yX13_chain cX13_chain 4 (some .int) : Cond) ∈ gT := gT_of (List.mem_of_getElem? (i := 2042) (by decide +kernel)) rfl
theorem lm_163 : (.methodLink RL 116 yX12_peace : Cond) ∈ gT := gT_of (List.mem_of_getElem? (i := 1331) (by decide +kernel)) rfl
theorem lm_164 : (.instanceMethod yX12_peace : Cond) ∈ gT := gT_of (List.mem_of_getElem? (i := 1332) (by decide +kernel)) rfl
theorem lm_165 : (.selects RX12 yX12_peace yX12_peace : Cond) ∈ gT := gT_of (List.mem_of_getElem? (i := 1333) (by decide +kernel)) rfl
theorem lm_166 : (.code yX12_peace cX12_peace 5 (some .int) : Cond) ∈ gT := gT_of (List.mem_of_getElem? (i := 1334) (by decide +kernel)) rfl
theorem lm_167 : (.methodLink RL 119 yX13_peace : Cond) ∈ gT := gT_of (List.mem_of_getElem? (i := 2047) (by decide +kernel)) rfl
theorem lm_168 : (.instanceMethod yX13_peace : Cond) ∈ gT := gT_of (List.mem_of_getElem? (i := 2048) (by decide +kernel)) rfl
theorem lm_169 : (.selects RX13 yX13_peace yX13_peace : Cond) ∈ gT := gT_of (List.mem_of_getElem? (i := 2049) (by decide +kernel)) rfl
theorem lm_170 : (.code yX13_peace cX13_peace 5 (some .int) : Cond) ∈ gT := gT_of (List.mem_of_getElem? (i := 2050) (by decide +kernel)) rfl
theorem lm_171 : (.methodLink RL 120 yX12_cathedral : Cond) ∈ gT := gT_of (List.mem_of_getElem? (i := 1339) (by decide +kernel)) rfl
theorem lm_172 : (.instanceMethod yX12_cathedral : Cond) ∈ gT := gT_of (List.mem_of_getElem? (i := 1340) (by decide +kernel)) rfl
theorem lm_173 : (.selects RX12 yX12_cathedral yX12_cathedral : Cond) ∈ gT := gT_of (List.mem_of_getElem? (i := 1341) (by decide +kernel)) rfl
theorem lm_174 : (.code yX12_cathedral cX12_cathedral 8 (some .int) : Cond) ∈ gT := gT_of (List.mem_of_getElem? (i := 1342) (by decide +kernel)) rfl
theorem lm_175 : (.methodLink RL 123 yX13_cathedral : Cond) ∈ gT := gT_of (List.mem_of_getElem? (i := 2051) (by decide +kernel)) rfl
theorem lm_176 : (.instanceMethod yX13_cathedral : Cond) ∈ gT := gT_of (List.mem_of_getElem? (i := 2052) (by decide +kernel)) rfl
theorem lm_177 : (.selects RX13 yX13_cathedral yX13_cathedral : Cond) ∈ gT := gT_of (List.mem_of_getElem? (i := 2053) (by decide +kernel)) rfl
theorem lm_178 : (.code yX13_cathedral cX13_cathedral 7 (some .int) : Cond) ∈ gT := gT_of (List.mem_of_getElem? (i := 2054) (by decide +kernel)) rfl
theorem lm_179 : (.methodLink RL 124 yX12_eddies : Cond) ∈ gT := gT_of (List.mem_of_getElem? (i := 1343) (by decide +kernel)) rfl
theorem lm_180 : (.instanceMethod yX12_eddies : Cond) ∈ gT := gT_of (List.mem_of_getElem? (i := 1344) (by decide +kernel)) rfl
theorem lm_181 : (.selects RX12 yX12_eddies yX12_eddies : Cond) ∈ gT := gT_of (List.mem_of_getElem? (i := 1345) (by decide +kernel)) rfl
theorem lm_182 : (.code yX12_eddies cX12_eddies 5 (some .int) : Cond) ∈ gT := gT_of (List.mem_of_getElem? (i := 1346) (by decide +kernel)) rfl
theorem lm_183 : (.methodLink RL 127 yX13_eddies : Cond) ∈ gT := gT_of (List.mem_of_getElem? (i := 2055) (by decide +kernel)) rfl
theorem lm_184 : (.instanceMethod yX13_eddies : Cond) ∈ gT := gT_of (List.mem_of_getElem? (i := 2056) (by decide +kernel)) rfl
theorem lm_185 : (.selects RX13 yX13_eddies yX13_eddies : Cond) ∈ gT := gT_of (List.mem_of_getElem? (i := 2057) (by decide +kernel)) rfl
theorem lm_186 : (.code yX13_eddies cX13_eddies 4 (some .int) : Cond) ∈ gT := gT_of (List.mem_of_getElem? (i := 2058) (by decide +kernel)) rfl
theorem lm_187 : (.methodLink RL 131 yX12_share : Cond) ∈ gT := gT_of (List.mem_of_getElem? (i := 1347) (by decide +kernel)) rfl
theorem lm_188 : (.instanceMethod yX12_share : Cond) ∈ gT := gT_of (List.mem_of_getElem? (i := 1348) (by decide +kernel)) rfl
theorem lm_189 : (.selects RX12 yX12_share yX12_share : Cond) ∈ gT := gT_of (List.mem_of_getElem? (i := 1349) (by decide +kernel)) rfl
theorem lm_190 : (.code yX12_share cX12_share 6 (some .int) : Cond) ∈ gT := gT_of (List.mem_of_getElem? (i := 1350) (by decide +kernel)) rfl
theorem lm_191 : (.methodLink RL 134 yX13_share : Cond) ∈ gT := gT_of (List.mem_of_getElem? (i := 2059) (by decide +kernel)) rfl
theorem lm_192 : (.instanceMethod yX13_share : Cond) ∈ gT := gT_of (List.mem_of_getElem? (i := 2060) (by decide +kernel)) rfl
theorem lm_193 : (.selects RX13 yX13_share yX13_share : Cond) ∈ gT := gT_of (List.mem_of_getElem? (i := 2061) (by decide +kernel)) rfl
theorem lm_194 : (.code yX13_share cX13_share 6 (some .int) : Cond) ∈ gT := gT_of (List.mem_of_getElem? (i := 2062) (by decide +kernel)) rfl
theorem lm_195 : (.methodLink RL 135 yX12_storms : Cond) ∈ gT := gT_of (List.mem_of_getElem? (i := 1355) (by decide +kernel)) rfl
theorem lm_196 : (.instanceMethod yX12_storms : Cond) ∈ gT := gT_of (List.mem_of_getElem? (i := 1356) (by decide +kernel)) rfl
theorem lm_197 : (.selects RX12 yX12_storms yX12_storms : Cond) ∈ gT := gT_of (List.mem_of_getElem? (i := 1357) (by decide +kernel)) rfl
theorem lm_198 : (.code yX12_storms cX12_storms 3 (some .int) : Cond) ∈ gT := gT_of (List.mem_of_getElem? (i := 1358) (by decide +kernel)) rfl
theorem lm_199 : (.methodLink RL 138 yX13_storms : Cond) ∈ gT := gT_of (List.mem_of_getElem? (i := 2067) (by decide +kernel)) rfl
theorem lm_200 : (.instanceMethod yX13_storms : Cond) ∈ gT := gT_of (List.mem_of_getElem? (i := 2068) (by decide +kernel)) rfl
theorem lm_201 : (.selects RX13 yX13_storms yX13_storms : Cond) ∈ gT := gT_of (List.mem_of_getElem? (i := 2069) (by decide +kernel)) rfl
theorem lm_202 : (.code yX13_storms cX13_storms 3 (some .int) : Cond) ∈ gT := gT_of (List.mem_of_getElem? (i := 2070) (by decide +kernel)) rfl
theorem lm_203 : (.methodLink RL 139 yX12_walls : Cond) ∈ gT := gT_of (List.mem_of_getElem? (i := 1377) (by decide +kernel)) rfl
theorem lm_204 : (.instanceMethod yX12_walls : Cond) ∈ gT := gT_of (List.mem_of_getElem? (i := 1378) (by decide +kernel)) rfl
theorem lm_205 : (.selects RX12 yX12_walls yX12_walls : Cond) ∈ gT := gT_of (List.mem_of_getElem? (i := 1379) (by decide +kernel)) rfl
theorem lm_206 : (.code yX12_walls cX12_walls 8 (some .int) : Cond) ∈ gT := gT_of (List.mem_of_getElem? (i := 1380) (by decide +kernel)) rfl
theorem lm_207 : (.methodLink RL 142 yX13_walls : Cond) ∈ gT := gT_of (List.mem_of_getElem? (i := 2080) (by decide +kernel)) rfl
theorem lm_208 : (.instanceMethod yX13_walls : Cond) ∈ gT := gT_of (List.mem_of_getElem? (i := 2081) (by decide +kernel)) rfl
theorem lm_209 : (.selects RX13 yX13_walls yX13_walls : Cond) ∈ gT := gT_of (List.mem_of_getElem? (i := 2082) (by decide +kernel)) rfl
theorem lm_210 : (.code yX13_walls cX13_walls 5 (some .int) : Cond) ∈ gT := gT_of (List.mem_of_getElem? (i := 2083) (by decide +kernel)) rfl
theorem lm_211 : (.methodLink RL 143 yX12_tell : Cond) ∈ gT := gT_of (List.mem_of_getElem? (i := 1382) (by decide +kernel)) rfl
theorem lm_212 : (.instanceMethod yX12_tell : Cond) ∈ gT := gT_of (List.mem_of_getElem? (i := 1383) (by decide +kernel)) rfl
theorem lm_213 : (.selects RX12 yX12_tell yX12_tell : Cond) ∈ gT := gT_of (List.mem_of_getElem? (i := 1384) (by decide +kernel)) rfl
theorem lm_214 : (.code yX12_tell cX12_tell 4 (some .boolean) : Cond) ∈ gT := gT_of (List.mem_of_getElem? (i := 1385) (by decide +kernel)) rfl
theorem lm_215 : (.methodLink RL 147 yX13_tell : Cond) ∈ gT := gT_of (List.mem_of_getElem? (i := 2089) (by decide +kernel)) rfl
theorem lm_216 : (.instanceMethod yX13_tell : Cond) ∈ gT := gT_of (List.mem_of_getElem? (i := 2090) (by decide +kernel)) rfl
theorem lm_217 : (.selects RX13 yX13_tell yX13_tell : Cond) ∈ gT := gT_of (List.mem_of_getElem? (i := 2091) (by decide +kernel)) rfl
theorem lm_218 : (.code yX13_tell cX13_tell 5 (some .boolean) : Cond) ∈ gT := gT_of (List.mem_of_getElem? (i := 2092) (by decide +kernel)) rfl
theorem lm_219 : (.methodLink RL 148 yX12_found : Cond) ∈ gT := gT_of (List.mem_of_getElem? (i := 1386) (by decide +kernel)) rfl
theorem lm_220 : (.instanceMethod yX12_found : Cond) ∈ gT := gT_of (List.mem_of_getElem? (i := 1387) (by decide +kernel)) rfl
theorem lm_221 : (.selects RX12 yX12_found yX12_found : Cond) ∈ gT := gT_of (List.mem_of_getElem? (i := 1388) (by decide +kernel)) rfl
theorem lm_222 : (.code yX12_found cX12_found 2 (some .int) : Cond) ∈ gT := gT_of (List.mem_of_getElem? (i := 1389) (by decide +kernel)) rfl
theorem lm_223 : (.methodLink RL 151 yX13_found : Cond) ∈ gT := gT_of (List.mem_of_getElem? (i := 2093) (by decide +kernel)) rfl
theorem lm_224 : (.instanceMethod yX13_found : Cond) ∈ gT := gT_of (List.mem_of_getElem? (i := 2094) (by decide +kernel)) rfl
theorem lm_225 : (.selects RX13 yX13_found yX13_found : Cond) ∈ gT := gT_of (List.mem_of_getElem? (i := 2095) (by decide +kernel)) rfl
theorem lm_226 : (.code yX13_found cX13_found 3 (some .int) : Cond) ∈ gT := gT_of (List.mem_of_getElem? (i := 2096) (by decide +kernel)) rfl
theorem lm_227 : (.methodLink RL 152 yX12_rests : Cond) ∈ gT := gT_of (List.mem_of_getElem? (i := 1393) (by decide +kernel)) rfl
theorem lm_228 : (.instanceMethod yX12_rests : Cond) ∈ gT := gT_of (List.mem_of_getElem? (i := 1394) (by decide +kernel)) rfl
theorem lm_229 : (.selects RX12 yX12_rests yX12_rests : Cond) ∈ gT := gT_of (List.mem_of_getElem? (i := 1395) (by decide +kernel)) rfl
theorem lm_230 : (.code yX12_rests cX12_rests 10 (some .int) : Cond) ∈ gT := gT_of (List.mem_of_getElem? (i := 1396) (by decide +kernel)) rfl
theorem lm_231 : (.methodLink RL 156 yX13_rests : Cond) ∈ gT := gT_of (List.mem_of_getElem? (i := 2101) (by decide +kernel)) rfl
theorem lm_232 : (.instanceMethod yX13_rests : Cond) ∈ gT := gT_of (List.mem_of_getElem? (i := 2102) (by decide +kernel)) rfl
theorem lm_233 : (.selects RX13 yX13_rests yX13_rests : Cond) ∈ gT := gT_of (List.mem_of_getElem? (i := 2103) (by decide +kernel)) rfl
theorem lm_234 : (.code yX13_rests cX13_rests 10 (some .int) : Cond) ∈ gT := gT_of (List.mem_of_getElem? (i := 2104) (by decide +kernel)) rfl
theorem lm_235 : (.methodLink RL 157 yX12_dams : Cond) ∈ gT := gT_of (List.mem_of_getElem? (i := 1400) (by decide +kernel)) rfl
theorem lm_236 : (.instanceMethod yX12_dams : Cond) ∈ gT := gT_of (List.mem_of_getElem? (i := 1401) (by decide +kernel)) rfl
theorem lm_237 : (.selects RX12 yX12_dams yX12_dams : Cond) ∈ gT := gT_of (List.mem_of_getElem? (i := 1402) (by decide +kernel)) rfl
theorem lm_238 : (.code yX12_dams cX12_dams 7 (some .int) : Cond) ∈ gT := gT_of (List.mem_of_getElem? (i := 1403) (by decide +kernel)) rfl
theorem lm_239 : (.methodLink RL 160 yX13_dams : Cond) ∈ gT := gT_of (List.mem_of_getElem? (i := 2108) (by decide +kernel)) rfl
theorem lm_240 : (.instanceMethod yX13_dams : Cond) ∈ gT := gT_of (List.mem_of_getElem? (i := 2109) (by decide +kernel)) rfl
theorem lm_241 : (.selects RX13 yX13_dams yX13_dams : Cond) ∈ gT := gT_of (List.mem_of_getElem? (i := 2110) (by decide +kernel)) rfl
theorem lm_242 : (.code yX13_dams cX13_dams 7 (some .int) : Cond) ∈ gT := gT_of (List.mem_of_getElem? (i := 2111) (by decide +kernel)) rfl
theorem lm_243 : (.methodLink RL 161 yX12_centuries : Cond) ∈ gT := gT_of (List.mem_of_getElem? (i := 1408) (by decide +kernel)) rfl
theorem lm_244 : (.instanceMethod yX12_centuries : Cond) ∈ gT := gT_of (List.mem_of_getElem? (i := 1409) (by decide +kernel)) rfl
theorem lm_245 : (.selects RX12 yX12_centuries yX12_centuries : Cond) ∈ gT := gT_of (List.mem_of_getElem? (i := 1410) (by decide +kernel)) rfl
theorem lm_246 : (.code yX12_centuries cX12_centuries 11 (some .int) : Cond) ∈ gT := gT_of (List.mem_of_getElem? (i := 1411) (by decide +kernel)) rfl
theorem lm_247 : (.methodLink RL 164 yX13_centuries : Cond) ∈ gT := gT_of (List.mem_of_getElem? (i := 2116) (by decide +kernel)) rfl
theorem lm_248 : (.instanceMethod yX13_centuries : Cond) ∈ gT := gT_of (List.mem_of_getElem? (i := 2117) (by decide +kernel)) rfl
theorem lm_249 : (.selects RX13 yX13_centuries yX13_centuries : Cond) ∈ gT := gT_of (List.mem_of_getElem? (i := 2118) (by decide +kernel)) rfl
theorem lm_250 : (.code yX13_centuries cX13_centuries 10 (some .int) : Cond) ∈ gT := gT_of (List.mem_of_getElem? (i := 2119) (by decide +kernel)) rfl
theorem lm_251 : (.methodLink RL 165 yX12_mark : Cond) ∈ gT := gT_of (List.mem_of_getElem? (i := 1192) (by decide +kernel)) rfl
theorem lm_252 : (.instanceMethod yX12_mark : Cond) ∈ gT := gT_of (List.mem_of_getElem? (i := 1193) (by decide +kernel)) rfl
theorem lm_253 : (.selects RX12 yX12_mark yX12_mark : Cond) ∈ gT := gT_of (List.mem_of_getElem? (i := 1194) (by decide +kernel)) rfl
theorem lm_254 : (.code yX12_mark cX12_mark 3 (some .boolean) : Cond) ∈ gT := gT_of (List.mem_of_getElem? (i := 1195) (by decide +kernel)) rfl
theorem lm_255 : (.methodLink RL 169 yX13_mark : Cond) ∈ gT := gT_of (List.mem_of_getElem? (i := 2128) (by decide +kernel)) rfl
theorem lm_256 : (.instanceMethod yX13_mark : Cond) ∈ gT := gT_of (List.mem_of_getElem? (i := 2129) (by decide +kernel)) rfl
theorem lm_257 : (.selects RX13 yX13_mark yX13_mark : Cond) ∈ gT := gT_of (List.mem_of_getElem? (i := 2130) (by decide +kernel)) rfl
theorem lm_258 : (.code yX13_mark cX13_mark 3 (some .boolean) : Cond) ∈ gT := gT_of (List.mem_of_getElem? (i := 2131) (by decide +kernel)) rfl
theorem lm_259 : (.methodLink RL 170 yX12_count : Cond) ∈ gT := gT_of (List.mem_of_getElem? (i := 1426) (by decide +kernel)) rfl
theorem lm_260 : (.instanceMethod yX12_count : Cond) ∈ gT := gT_of (List.mem_of_getElem? (i := 1427) (by decide +kernel)) rfl
theorem lm_261 : (.selects RX12 yX12_count yX12_count : Cond) ∈ gT := gT_of (List.mem_of_getElem? (i := 1428) (by decide +kernel)) rfl
theorem lm_262 : (.code yX12_count cX12_count 2 (some .int) : Cond) ∈ gT := gT_of (List.mem_of_getElem? (i := 1429) (by decide +kernel)) rfl
theorem lm_263 : (.methodLink RL 173 yX13_count : Cond) ∈ gT := gT_of (List.mem_of_getElem? (i := 2132) (by decide +kernel)) rfl
theorem lm_264 : (.instanceMethod yX13_count : Cond) ∈ gT := gT_of (List.mem_of_getElem? (i := 2133) (by decide +kernel)) rfl
theorem lm_265 : (.selects RX13 yX13_count yX13_count : Cond) ∈ gT := gT_of (List.mem_of_getElem? (i := 2134) (by decide +kernel)) rfl
theorem lm_266 : (.code yX13_count cX13_count 2 (some .int) : Cond) ∈ gT := gT_of (List.mem_of_getElem? (i := 2135) (by decide +kernel)) rfl
