theorem dX13_undo_0 : decode cX13_undo 0 = .ok (.aload_n 0, 1) := by decide +kernel
theorem dX13_undo_1 : decode cX13_undo 1 = .ok (.iconst 0, 1) := by decide +kernel
theorem dX13_undo_2 : decode cX13_undo 2 = .ok (.putfield 1, 3) := by decide +kernel
theorem dX13_undo_5 : decode cX13_undo 5 = .ok (.aload_n 0, 1) := by decide +kernel
theorem dX13_undo_6 : decode cX13_undo 6 = .ok (.getfield 289, 3) := by decide +kernel
theorem dX13_undo_9 : decode cX13_undo 9 = .ok (.ifCond .ne 5, 3) := by decide +kernel
theorem dX13_undo_12 : decode cX13_undo 12 = .ok (.iconst 0, 1) := by decide +kernel
theorem dX13_undo_13 : decode cX13_undo 13 = .ok (.ireturn, 1) := by decide +kernel
theorem dX13_undo_14 : decode cX13_undo 14 = .ok (.aload_n 0, 1) := by decide +kernel
theorem dX13_undo_15 : decode cX13_undo 15 = .ok (.dup, 1) := by decide +kernel
theorem dX13_undo_16 : decode cX13_undo 16 = .ok (.getfield 289, 3) := by decide +kernel
theorem dX13_undo_19 : decode cX13_undo 19 = .ok (.iconst 1, 1) := by decide +kernel
theorem dX13_undo_20 : decode cX13_undo 20 = .ok (.isub, 1) := by decide +kernel
theorem dX13_undo_21 : decode cX13_undo 21 = .ok (.putfield 289, 3) := by decide +kernel
theorem dX13_undo_24 : decode cX13_undo 24 = .ok (.aload_n 0, 1) := by decide +kernel
theorem dX13_undo_25 : decode cX13_undo 25 = .ok (.bipush 60, 2) := by decide +kernel
theorem dX13_undo_27 : decode cX13_undo 27 = .ok (.iconst 5, 1) := by decide +kernel
theorem dX13_undo_28 : decode cX13_undo 28 = .ok (.aload_n 0, 1) := by decide +kernel
theorem dX13_undo_29 : decode cX13_undo 29 = .ok (.getfield 289, 3) := by decide +kernel
theorem dX13_undo_32 : decode cX13_undo 32 = .ok (.iadd, 1) := by decide +kernel
theorem dX13_undo_33 : decode cX13_undo 33 = .ok (.imul, 1) := by decide +kernel
theorem dX13_undo_34 : decode cX13_undo 34 = .ok (.iconst 0, 1) := by decide +kernel
theorem dX13_undo_35 : decode cX13_undo 35 = .ok (.bipush 19, 2) := by decide +kernel
theorem dX13_undo_37 : decode cX13_undo 37 = .ok (.invokevirtual 292, 3) := by decide +kernel
theorem dX13_undo_40 : decode cX13_undo 40 = .ok (.iconst 1, 1) := by decide +kernel
theorem dX13_undo_41 : decode cX13_undo 41 = .ok (.ireturn, 1) := by decide +kernel
theorem dX13_weddings_0 : decode cX13_weddings 0 = .ok (.iconst 0, 1) := by decide +kernel
theorem dX13_weddings_1 : decode cX13_weddings 1 = .ok (.istore_n 2, 1) := by decide +kernel
theorem dX13_weddings_2 : decode cX13_weddings 2 = .ok (.iconst 0, 1) := by decide +kernel
theorem dX13_weddings_3 : decode cX13_weddings 3 = .ok (.istore_n 3, 1) := by decide +kernel
theorem dX13_weddings_4 : decode cX13_weddings 4 = .ok (.iload_n 3, 1) := by decide +kernel
theorem dX13_weddings_5 : decode cX13_weddings 5 = .ok (.aload_n 0, 1) := by decide +kernel
theorem dX13_weddings_6 : decode cX13_weddings 6 = .ok (.invokevirtual 296, 3) := by decide +kernel
theorem dX13_weddings_9 : decode cX13_weddings 9 = .ok (.if_icmp .ge 26, 3) := by decide +kernel
theorem dX13_weddings_12 : decode cX13_weddings 12 = .ok (.iload_n 2, 1) := by decide +kernel
theorem dX13_weddings_13 : decode cX13_weddings 13 = .ok (.aload_n 0, 1) := by decide +kernel
theorem dX13_weddings_14 : decode cX13_weddings 14 = .ok (.iload_n 1, 1) := by decide +kernel
theorem dX13_weddings_15 : decode cX13_weddings 15 = .ok (.iload_n 3, 1) := by decide +kernel
theorem dX13_weddings_16 : decode cX13_weddings 16 = .ok (.invokevirtual 303, 3) := by decide +kernel
theorem dX13_weddings_19 : decode cX13_weddings 19 = .ok (.ifCond .lt 7, 3) := by decide +kernel
theorem dX13_weddings_22 : decode cX13_weddings 22 = .ok (.iconst 1, 1) := by decide +kernel
theorem dX13_weddings_23 : decode cX13_weddings 23 = .ok (.goto 4, 3) := by decide +kernel
theorem dX13_weddings_26 : decode cX13_weddings 26 = .ok (.iconst 0, 1) := by decide +kernel
theorem dX13_weddings_27 : decode cX13_weddings 27 = .ok (.iadd, 1) := by decide +kernel
theorem dX13_weddings_28 : decode cX13_weddings 28 = .ok (.istore_n 2, 1) := by decide +kernel
theorem dX13_weddings_29 : decode cX13_weddings 29 = .ok (.iinc 3 1, 3) := by decide +kernel
theorem dX13_weddings_32 : decode cX13_weddings 32 = .ok (.goto (-28), 3) := by decide +kernel
theorem dX13_weddings_35 : decode cX13_weddings 35 = .ok (.iload_n 2, 1) := by decide +kernel
theorem dX13_weddings_36 : decode cX13_weddings 36 = .ok (.ireturn, 1) := by decide +kernel
theorem dX13_judged_0 : decode cX13_judged 0 = .ok (.aload_n 0, 1) := by decide +kernel
theorem dX13_judged_1 : decode cX13_judged 1 = .ok (.iconst 0, 1) := by decide +kernel
theorem dX13_judged_2 : decode cX13_judged 2 = .ok (.putfield 1, 3) := by decide +kernel
theorem dX13_judged_5 : decode cX13_judged 5 = .ok (.iload_n 1, 1) := by decide +kernel
theorem dX13_judged_6 : decode cX13_judged 6 = .ok (.iconst 0, 1) := by decide +kernel
theorem dX13_judged_7 : decode cX13_judged 7 = .ok (.iconst 2, 1) := by decide +kernel
theorem dX13_judged_8 : decode cX13_judged 8 = .ok (.invokestatic 339, 3) := by decide +kernel
theorem dX13_judged_11 : decode cX13_judged 11 = .ok (.ifCond .ne 6, 3) := by decide +kernel
theorem dX13_judged_14 : decode cX13_judged 14 = .ok (.bipush (-2), 2) := by decide +kernel
theorem dX13_judged_16 : decode cX13_judged 16 = .ok (.ireturn, 1) := by decide +kernel
theorem dX13_judged_17 : decode cX13_judged 17 = .ok (.aload_n 0, 1) := by decide +kernel
theorem dX13_judged_18 : decode cX13_judged 18 = .ok (.sipush 1260, 3) := by decide +kernel
theorem dX13_judged_21 : decode cX13_judged 21 = .ok (.invokevirtual 286, 3) := by decide +kernel
theorem dX13_judged_24 : decode cX13_judged 24 = .ok (.iconst (-1), 1) := by decide +kernel
theorem dX13_judged_25 : decode cX13_judged 25 = .ok (.istore_n 2, 1) := by decide +kernel
theorem dX13_judged_26 : decode cX13_judged 26 = .ok (.iconst (-1), 1) := by decide +kernel
theorem dX13_judged_27 : decode cX13_judged 27 = .ok (.istore_n 3, 1) := by decide +kernel
theorem dX13_judged_28 : decode cX13_judged 28 = .ok (.iconst 0, 1) := by decide +kernel
theorem dX13_judged_29 : decode cX13_judged 29 = .ok (.istore 4, 2) := by decide +kernel
theorem dX13_judged_31 : decode cX13_judged 31 = .ok (.iload 4, 2) := by decide +kernel
theorem dX13_judged_33 : decode cX13_judged 33 = .ok (.aload_n 0, 1) := by decide +kernel
theorem dX13_judged_34 : decode cX13_judged 34 = .ok (.getfield 114, 3) := by decide +kernel
theorem dX13_judged_37 : decode cX13_judged 37 = .ok (.iconst 0, 1) := by decide +kernel
theorem dX13_judged_38 : decode cX13_judged 38 = .ok (.iaload, 1) := by decide +kernel
theorem dX13_judged_39 : decode cX13_judged 39 = .ok (.if_icmp .ge 207, 3) := by decide +kernel
theorem dX13_judged_42 : decode cX13_judged 42 = .ok (.aload_n 0, 1) := by decide +kernel
theorem dX13_judged_43 : decode cX13_judged 43 = .ok (.getfield 114, 3) := by decide +kernel
theorem dX13_judged_46 : decode cX13_judged 46 = .ok (.iconst 1, 1) := by decide +kernel
theorem dX13_judged_47 : decode cX13_judged 47 = .ok (.iconst 3, 1) := by decide +kernel
theorem dX13_judged_48 : decode cX13_judged 48 = .ok (.iload 4, 2) := by decide +kernel
theorem dX13_judged_50 : decode cX13_judged 50 = .ok (.imul, 1) := by decide +kernel
theorem dX13_judged_51 : decode cX13_judged 51 = .ok (.iadd, 1) := by decide +kernel
theorem dX13_judged_52 : decode cX13_judged 52 = .ok (.iaload, 1) := by decide +kernel
theorem dX13_judged_53 : decode cX13_judged 53 = .ok (.istore 5, 2) := by decide +kernel
theorem dX13_judged_55 : decode cX13_judged 55 = .ok (.aload_n 0, 1) := by decide +kernel
theorem dX13_judged_56 : decode cX13_judged 56 = .ok (.getfield 114, 3) := by decide +kernel
theorem dX13_judged_59 : decode cX13_judged 59 = .ok (.iconst 2, 1) := by decide +kernel
theorem dX13_judged_60 : decode cX13_judged 60 = .ok (.iconst 3, 1) := by decide +kernel
theorem dX13_judged_61 : decode cX13_judged 61 = .ok (.iload 4, 2) := by decide +kernel
theorem dX13_judged_63 : decode cX13_judged 63 = .ok (.imul, 1) := by decide +kernel
theorem dX13_judged_64 : decode cX13_judged 64 = .ok (.iadd, 1) := by decide +kernel
theorem dX13_judged_65 : decode cX13_judged 65 = .ok (.iaload, 1) := by decide +kernel
theorem dX13_judged_66 : decode cX13_judged 66 = .ok (.istore 6, 2) := by decide +kernel
theorem dX13_judged_68 : decode cX13_judged 68 = .ok (.aload_n 0, 1) := by decide +kernel
theorem dX13_judged_69 : decode cX13_judged 69 = .ok (.getfield 114, 3) := by decide +kernel
theorem dX13_judged_72 : decode cX13_judged 72 = .ok (.iconst 3, 1) := by decide +kernel
theorem dX13_judged_73 : decode cX13_judged 73 = .ok (.iconst 3, 1) := by decide +kernel
theorem dX13_judged_74 : decode cX13_judged 74 = .ok (.iload 4, 2) := by decide +kernel
theorem dX13_judged_76 : decode cX13_judged 76 = .ok (.imul, 1) := by decide +kernel
theorem dX13_judged_77 : decode cX13_judged 77 = .ok (.iadd, 1) := by decide +kernel
theorem dX13_judged_78 : decode cX13_judged 78 = .ok (.iaload, 1) := by decide +kernel
theorem dX13_judged_79 : decode cX13_judged 79 = .ok (.istore 7, 2) := by decide +kernel
theorem dX13_judged_81 : decode cX13_judged 81 = .ok (.iload 5, 2) := by decide +kernel
theorem dX13_judged_83 : decode cX13_judged 83 = .ok (.iconst 2, 1) := by decide +kernel
theorem dX13_judged_84 : decode cX13_judged 84 = .ok (.if_icmp .eq 37, 3) := by decide +kernel
theorem dX13_judged_87 : decode cX13_judged 87 = .ok (.iload 5, 2) := by decide +kernel
theorem dX13_judged_89 : decode cX13_judged 89 = .ok (.ifCond .ne 20, 3) := by decide +kernel
theorem dX13_judged_92 : decode cX13_judged 92 = .ok (.aload_n 0, 1) := by decide +kernel
theorem dX13_judged_93 : decode cX13_judged 93 = .ok (.sipush 1260, 3) := by decide +kernel
theorem dX13_judged_96 : decode cX13_judged 96 = .ok (.iload 6, 2) := by decide +kernel
theorem dX13_judged_98 : decode cX13_judged 98 = .ok (.iload 7, 2) := by decide +kernel
theorem dX13_judged_100 : decode cX13_judged 100 = .ok (.invokevirtual 361, 3) := by decide +kernel
theorem dX13_judged_103 : decode cX13_judged 103 = .ok (.ifCond .eq 22, 3) := by decide +kernel
theorem dX13_judged_106 : decode cX13_judged 106 = .ok (.goto 15, 3) := by decide +kernel
theorem dX13_judged_109 : decode cX13_judged 109 = .ok (.aload_n 0, 1) := by decide +kernel
theorem dX13_judged_110 : decode cX13_judged 110 = .ok (.sipush 1260, 3) := by decide +kernel
theorem dX13_judged_113 : decode cX13_judged 113 = .ok (.iload 6, 2) := by decide +kernel
theorem dX13_judged_115 : decode cX13_judged 115 = .ok (.invokevirtual 303, 3) := by decide +kernel
theorem dX13_judged_118 : decode cX13_judged 118 = .ok (.ifCond .lt 7, 3) := by decide +kernel
theorem dX13_judged_121 : decode cX13_judged 121 = .ok (.iconst 1, 1) := by decide +kernel
theorem dX13_judged_122 : decode cX13_judged 122 = .ok (.goto 4, 3) := by decide +kernel
theorem dX13_judged_125 : decode cX13_judged 125 = .ok (.iconst 0, 1) := by decide +kernel
theorem dX13_judged_126 : decode cX13_judged 126 = .ok (.istore 8, 2) := by decide +kernel
theorem dX13_judged_128 : decode cX13_judged 128 = .ok (.iload 8, 2) := by decide +kernel
theorem dX13_judged_130 : decode cX13_judged 130 = .ok (.ifCond .eq 23, 3) := by decide +kernel
theorem dX13_judged_133 : decode cX13_judged 133 = .ok (.iload 5, 2) := by decide +kernel
theorem dX13_judged_135 : decode cX13_judged 135 = .ok (.ifCond .ne 18, 3) := by decide +kernel
theorem dX13_judged_138 : decode cX13_judged 138 = .ok (.aload_n 0, 1) := by decide +kernel
theorem dX13_judged_139 : decode cX13_judged 139 = .ok (.sipush 1260, 3) := by decide +kernel
theorem dX13_judged_142 : decode cX13_judged 142 = .ok (.iload 6, 2) := by decide +kernel
theorem dX13_judged_144 : decode cX13_judged 144 = .ok (.iload 7, 2) := by decide +kernel
theorem dX13_judged_146 : decode cX13_judged 146 = .ok (.invokevirtual 379, 3) := by decide +kernel
theorem dX13_judged_149 : decode cX13_judged 149 = .ok (.pop, 1) := by decide +kernel
theorem dX13_judged_150 : decode cX13_judged 150 = .ok (.goto 41, 3) := by decide +kernel
theorem dX13_judged_153 : decode cX13_judged 153 = .ok (.iload 8, 2) := by decide +kernel
theorem dX13_judged_155 : decode cX13_judged 155 = .ok (.ifCond .eq 24, 3) := by decide +kernel
theorem dX13_judged_158 : decode cX13_judged 158 = .ok (.iload 5, 2) := by decide +kernel
theorem dX13_judged_160 : decode cX13_judged 160 = .ok (.iconst 1, 1) := by decide +kernel
theorem dX13_judged_161 : decode cX13_judged 161 = .ok (.if_icmp .ne 18, 3) := by decide +kernel
theorem dX13_judged_164 : decode cX13_judged 164 = .ok (.aload_n 0, 1) := by decide +kernel
theorem dX13_judged_165 : decode cX13_judged 165 = .ok (.getfield 126, 3) := by decide +kernel
theorem dX13_judged_168 : decode cX13_judged 168 = .ok (.sipush 1261, 3) := by decide +kernel
theorem dX13_judged_171 : decode cX13_judged 171 = .ok (.iload 6, 2) := by decide +kernel
theorem dX13_judged_173 : decode cX13_judged 173 = .ok (.iadd, 1) := by decide +kernel
theorem dX13_judged_174 : decode cX13_judged 174 = .ok (.iconst (-1), 1) := by decide +kernel
theorem dX13_judged_175 : decode cX13_judged 175 = .ok (.iastore, 1) := by decide +kernel
theorem dX13_judged_176 : decode cX13_judged 176 = .ok (.goto 15, 3) := by decide +kernel
theorem dX13_judged_179 : decode cX13_judged 179 = .ok (.iload 8, 2) := by decide +kernel
theorem dX13_judged_181 : decode cX13_judged 181 = .ok (.ifCond .eq 10, 3) := by decide +kernel
theorem dX13_judged_184 : decode cX13_judged 184 = .ok (.aload_n 0, 1) := by decide +kernel
theorem dX13_judged_185 : decode cX13_judged 185 = .ok (.sipush 1260, 3) := by decide +kernel
theorem dX13_judged_188 : decode cX13_judged 188 = .ok (.invokevirtual 382, 3) := by decide +kernel
theorem dX13_judged_191 : decode cX13_judged 191 = .ok (.iload 8, 2) := by decide +kernel
theorem dX13_judged_193 : decode cX13_judged 193 = .ok (.ifCond .ne 12, 3) := by decide +kernel
theorem dX13_judged_196 : decode cX13_judged 196 = .ok (.iload_n 2, 1) := by decide +kernel
theorem dX13_judged_197 : decode cX13_judged 197 = .ok (.ifCond .ge 8, 3) := by decide +kernel
theorem dX13_judged_200 : decode cX13_judged 200 = .ok (.iload 4, 2) := by decide +kernel
theorem dX13_judged_202 : decode cX13_judged 202 = .ok (.goto 4, 3) := by decide +kernel
theorem dX13_judged_205 : decode cX13_judged 205 = .ok (.iload_n 2, 1) := by decide +kernel
theorem dX13_judged_206 : decode cX13_judged 206 = .ok (.istore_n 2, 1) := by decide +kernel
theorem dX13_judged_207 : decode cX13_judged 207 = .ok (.iload 8, 2) := by decide +kernel
theorem dX13_judged_209 : decode cX13_judged 209 = .ok (.ifCond .eq 29, 3) := by decide +kernel
theorem dX13_judged_212 : decode cX13_judged 212 = .ok (.iload_n 3, 1) := by decide +kernel
theorem dX13_judged_213 : decode cX13_judged 213 = .ok (.ifCond .ge 25, 3) := by decide +kernel
theorem dX13_judged_216 : decode cX13_judged 216 = .ok (.aload_n 0, 1) := by decide +kernel
theorem dX13_judged_217 : decode cX13_judged 217 = .ok (.sipush 1260, 3) := by decide +kernel
theorem dX13_judged_220 : decode cX13_judged 220 = .ok (.aload_n 0, 1) := by decide +kernel
theorem dX13_judged_221 : decode cX13_judged 221 = .ok (.sipush 1260, 3) := by decide +kernel
theorem dX13_judged_224 : decode cX13_judged 224 = .ok (.invokevirtual 349, 3) := by decide +kernel
theorem dX13_judged_227 : decode cX13_judged 227 = .ok (.invokevirtual 385, 3) := by decide +kernel
theorem dX13_judged_230 : decode cX13_judged 230 = .ok (.ifCond .ne 8, 3) := by decide +kernel
theorem dX13_judged_233 : decode cX13_judged 233 = .ok (.iload 4, 2) := by decide +kernel
theorem dX13_judged_235 : decode cX13_judged 235 = .ok (.goto 4, 3) := by decide +kernel
theorem dX13_judged_238 : decode cX13_judged 238 = .ok (.iload_n 3, 1) := by decide +kernel
theorem dX13_judged_239 : decode cX13_judged 239 = .ok (.istore_n 3, 1) := by decide +kernel
theorem dX13_judged_240 : decode cX13_judged 240 = .ok (.iinc 4 1, 3) := by decide +kernel
theorem dX13_judged_243 : decode cX13_judged 243 = .ok (.goto (-212), 3) := by decide +kernel
theorem dX13_judged_246 : decode cX13_judged 246 = .ok (.iload_n 1, 1) := by decide +kernel
theorem dX13_judged_247 : decode cX13_judged 247 = .ok (.ifCond .ne 7, 3) := by decide +kernel
theorem dX13_judged_250 : decode cX13_judged 250 = .ok (.iload_n 2, 1) := by decide +kernel
theorem dX13_judged_251 : decode cX13_judged 251 = .ok (.goto 19, 3) := by decide +kernel
theorem dX13_judged_254 : decode cX13_judged 254 = .ok (.iload_n 1, 1) := by decide +kernel
theorem dX13_judged_255 : decode cX13_judged 255 = .ok (.iconst 1, 1) := by decide +kernel
theorem dX13_judged_256 : decode cX13_judged 256 = .ok (.if_icmp .ne 7, 3) := by decide +kernel
theorem dX13_judged_259 : decode cX13_judged 259 = .ok (.iload_n 3, 1) := by decide +kernel
theorem dX13_judged_260 : decode cX13_judged 260 = .ok (.goto 10, 3) := by decide +kernel
theorem dX13_judged_263 : decode cX13_judged 263 = .ok (.aload_n 0, 1) := by decide +kernel
theorem dX13_judged_264 : decode cX13_judged 264 = .ok (.sipush 1260, 3) := by decide +kernel
theorem dX13_judged_267 : decode cX13_judged 267 = .ok (.invokevirtual 388, 3) := by decide +kernel
theorem dX13_judged_270 : decode cX13_judged 270 = .ok (.ireturn, 1) := by decide +kernel
theorem dX13_wornBy_0 : decode cX13_wornBy 0 = .ok (.aload_n 0, 1) := by decide +kernel
theorem dX13_wornBy_1 : decode cX13_wornBy 1 = .ok (.iload_n 1, 1) := by decide +kernel
theorem dX13_wornBy_2 : decode cX13_wornBy 2 = .ok (.iload_n 2, 1) := by decide +kernel
theorem dX13_wornBy_3 : decode cX13_wornBy 3 = .ok (.invokevirtual 355, 3) := by decide +kernel
theorem dX13_wornBy_6 : decode cX13_wornBy 6 = .ok (.istore_n 3, 1) := by decide +kernel
theorem dX13_wornBy_7 : decode cX13_wornBy 7 = .ok (.iconst 0, 1) := by decide +kernel
theorem dX13_wornBy_8 : decode cX13_wornBy 8 = .ok (.istore 4, 2) := by decide +kernel
theorem dX13_wornBy_10 : decode cX13_wornBy 10 = .ok (.iload_n 3, 1) := by decide +kernel
theorem dX13_wornBy_11 : decode cX13_wornBy 11 = .ok (.ifCond .le 55, 3) := by decide +kernel
theorem dX13_wornBy_14 : decode cX13_wornBy 14 = .ok (.iload 4, 2) := by decide +kernel
theorem dX13_wornBy_16 : decode cX13_wornBy 16 = .ok (.sipush 400, 3) := by decide +kernel
theorem dX13_wornBy_19 : decode cX13_wornBy 19 = .ok (.if_icmp .ge 47, 3) := by decide +kernel
theorem dX13_wornBy_22 : decode cX13_wornBy 22 = .ok (.aload_n 0, 1) := by decide +kernel
theorem dX13_wornBy_23 : decode cX13_wornBy 23 = .ok (.getfield 126, 3) := by decide +kernel
theorem dX13_wornBy_26 : decode cX13_wornBy 26 = .ok (.iconst 0, 1) := by decide +kernel
theorem dX13_wornBy_27 : decode cX13_wornBy 27 = .ok (.iaload, 1) := by decide +kernel
theorem dX13_wornBy_28 : decode cX13_wornBy 28 = .ok (.iload 4, 2) := by decide +kernel
theorem dX13_wornBy_30 : decode cX13_wornBy 30 = .ok (.iadd, 1) := by decide +kernel
theorem dX13_wornBy_31 : decode cX13_wornBy 31 = .ok (.iconst 4, 1) := by decide +kernel
theorem dX13_wornBy_32 : decode cX13_wornBy 32 = .ok (.irem, 1) := by decide +kernel
theorem dX13_wornBy_33 : decode cX13_wornBy 33 = .ok (.istore 5, 2) := by decide +kernel
theorem dX13_wornBy_35 : decode cX13_wornBy 35 = .ok (.iload_n 3, 1) := by decide +kernel
theorem dX13_wornBy_36 : decode cX13_wornBy 36 = .ok (.aload_n 0, 1) := by decide +kernel
theorem dX13_wornBy_37 : decode cX13_wornBy 37 = .ok (.iload_n 1, 1) := by decide +kernel
theorem dX13_wornBy_38 : decode cX13_wornBy 38 = .ok (.iconst 4, 1) := by decide +kernel
theorem dX13_wornBy_39 : decode cX13_wornBy 39 = .ok (.iload 5, 2) := by decide +kernel
theorem dX13_wornBy_41 : decode cX13_wornBy 41 = .ok (.iadd, 1) := by decide +kernel
theorem dX13_wornBy_42 : decode cX13_wornBy 42 = .ok (.invokevirtual 300, 3) := by decide +kernel
theorem dX13_wornBy_45 : decode cX13_wornBy 45 = .ok (.aload_n 0, 1) := by decide +kernel
theorem dX13_wornBy_46 : decode cX13_wornBy 46 = .ok (.iload_n 2, 1) := by decide +kernel
theorem dX13_wornBy_47 : decode cX13_wornBy 47 = .ok (.iconst 4, 1) := by decide +kernel
theorem dX13_wornBy_48 : decode cX13_wornBy 48 = .ok (.iload 5, 2) := by decide +kernel
theorem dX13_wornBy_50 : decode cX13_wornBy 50 = .ok (.iadd, 1) := by decide +kernel
theorem dX13_wornBy_51 : decode cX13_wornBy 51 = .ok (.invokevirtual 300, 3) := by decide +kernel
theorem dX13_wornBy_54 : decode cX13_wornBy 54 = .ok (.iadd, 1) := by decide +kernel
theorem dX13_wornBy_55 : decode cX13_wornBy 55 = .ok (.bipush 10, 2) := by decide +kernel
theorem dX13_wornBy_57 : decode cX13_wornBy 57 = .ok (.idiv, 1) := by decide +kernel
theorem dX13_wornBy_58 : decode cX13_wornBy 58 = .ok (.isub, 1) := by decide +kernel
theorem dX13_wornBy_59 : decode cX13_wornBy 59 = .ok (.istore_n 3, 1) := by decide +kernel
theorem dX13_wornBy_60 : decode cX13_wornBy 60 = .ok (.iinc 4 1, 3) := by decide +kernel
theorem dX13_wornBy_63 : decode cX13_wornBy 63 = .ok (.goto (-53), 3) := by decide +kernel
theorem dX13_wornBy_66 : decode cX13_wornBy 66 = .ok (.iload_n 3, 1) := by decide +kernel
theorem dX13_wornBy_67 : decode cX13_wornBy 67 = .ok (.ifCond .le 7, 3) := by decide +kernel
theorem dX13_wornBy_70 : decode cX13_wornBy 70 = .ok (.iconst (-1), 1) := by decide +kernel
theorem dX13_wornBy_71 : decode cX13_wornBy 71 = .ok (.goto 5, 3) := by decide +kernel
theorem dX13_wornBy_74 : decode cX13_wornBy 74 = .ok (.iload 4, 2) := by decide +kernel
theorem dX13_wornBy_76 : decode cX13_wornBy 76 = .ok (.ireturn, 1) := by decide +kernel
theorem dX13_worn_0 : decode cX13_worn 0 = .ok (.aload_n 0, 1) := by decide +kernel
theorem dX13_worn_1 : decode cX13_worn 1 = .ok (.iconst 0, 1) := by decide +kernel
theorem dX13_worn_2 : decode cX13_worn 2 = .ok (.putfield 1, 3) := by decide +kernel
theorem dX13_worn_5 : decode cX13_worn 5 = .ok (.aload_n 0, 1) := by decide +kernel
theorem dX13_worn_6 : decode cX13_worn 6 = .ok (.iload_n 1, 1) := by decide +kernel
theorem dX13_worn_7 : decode cX13_worn 7 = .ok (.invokevirtual 336, 3) := by decide +kernel
theorem dX13_worn_10 : decode cX13_worn 10 = .ok (.ifCond .eq 25, 3) := by decide +kernel
theorem dX13_worn_13 : decode cX13_worn 13 = .ok (.aload_n 0, 1) := by decide +kernel
theorem dX13_worn_14 : decode cX13_worn 14 = .ok (.iload_n 2, 1) := by decide +kernel
theorem dX13_worn_15 : decode cX13_worn 15 = .ok (.invokevirtual 336, 3) := by decide +kernel
theorem dX13_worn_18 : decode cX13_worn 18 = .ok (.ifCond .eq 17, 3) := by decide +kernel
theorem dX13_worn_21 : decode cX13_worn 21 = .ok (.iload_n 1, 1) := by decide +kernel
theorem dX13_worn_22 : decode cX13_worn 22 = .ok (.iload_n 2, 1) := by decide +kernel
theorem dX13_worn_23 : decode cX13_worn 23 = .ok (.if_icmp .eq 12, 3) := by decide +kernel
theorem dX13_worn_26 : decode cX13_worn 26 = .ok (.aload_n 0, 1) := by decide +kernel
theorem dX13_worn_27 : decode cX13_worn 27 = .ok (.iload_n 1, 1) := by decide +kernel
theorem dX13_worn_28 : decode cX13_worn 28 = .ok (.iload_n 2, 1) := by decide +kernel
theorem dX13_worn_29 : decode cX13_worn 29 = .ok (.invokevirtual 391, 3) := by decide +kernel
theorem dX13_worn_32 : decode cX13_worn 32 = .ok (.goto 4, 3) := by decide +kernel
theorem dX13_worn_35 : decode cX13_worn 35 = .ok (.iconst (-1), 1) := by decide +kernel
theorem dX13_worn_36 : decode cX13_worn 36 = .ok (.ireturn, 1) := by decide +kernel
theorem dX13_love_0 : decode cX13_love 0 = .ok (.aload_n 0, 1) := by decide +kernel
theorem dX13_love_1 : decode cX13_love 1 = .ok (.iconst 0, 1) := by decide +kernel
theorem dX13_love_2 : decode cX13_love 2 = .ok (.putfield 1, 3) := by decide +kernel
theorem dX13_love_5 : decode cX13_love 5 = .ok (.iconst (-1), 1) := by decide +kernel
theorem dX13_love_6 : decode cX13_love 6 = .ok (.istore_n 2, 1) := by decide +kernel
theorem dX13_love_7 : decode cX13_love 7 = .ok (.iconst 0, 1) := by decide +kernel
theorem dX13_love_8 : decode cX13_love 8 = .ok (.istore_n 3, 1) := by decide +kernel
theorem dX13_love_9 : decode cX13_love 9 = .ok (.iconst 0, 1) := by decide +kernel
theorem dX13_love_10 : decode cX13_love 10 = .ok (.istore 4, 2) := by decide +kernel
theorem dX13_love_12 : decode cX13_love 12 = .ok (.iload 4, 2) := by decide +kernel
theorem dX13_love_14 : decode cX13_love 14 = .ok (.aload_n 0, 1) := by decide +kernel
theorem dX13_love_15 : decode cX13_love 15 = .ok (.invokevirtual 296, 3) := by decide +kernel
theorem dX13_love_18 : decode cX13_love 18 = .ok (.if_icmp .ge 67, 3) := by decide +kernel
theorem dX13_love_21 : decode cX13_love 21 = .ok (.aload_n 0, 1) := by decide +kernel
theorem dX13_love_22 : decode cX13_love 22 = .ok (.iload_n 1, 1) := by decide +kernel
theorem dX13_love_23 : decode cX13_love 23 = .ok (.invokevirtual 336, 3) := by decide +kernel
theorem dX13_love_26 : decode cX13_love 26 = .ok (.ifCond .eq 59, 3) := by decide +kernel
theorem dX13_love_29 : decode cX13_love 29 = .ok (.iload 4, 2) := by decide +kernel
theorem dX13_love_31 : decode cX13_love 31 = .ok (.iload_n 1, 1) := by decide +kernel
theorem dX13_love_32 : decode cX13_love 32 = .ok (.if_icmp .eq 13, 3) := by decide +kernel
theorem dX13_love_35 : decode cX13_love 35 = .ok (.aload_n 0, 1) := by decide +kernel
theorem dX13_love_36 : decode cX13_love 36 = .ok (.iload_n 1, 1) := by decide +kernel
theorem dX13_love_37 : decode cX13_love 37 = .ok (.iload 4, 2) := by decide +kernel
theorem dX13_love_39 : decode cX13_love 39 = .ok (.invokevirtual 355, 3) := by decide +kernel
theorem dX13_love_42 : decode cX13_love 42 = .ok (.ifCond .ne 7, 3) := by decide +kernel
theorem dX13_love_45 : decode cX13_love 45 = .ok (.iconst (-1), 1) := by decide +kernel
theorem dX13_love_46 : decode cX13_love 46 = .ok (.goto 10, 3) := by decide +kernel
theorem dX13_love_49 : decode cX13_love 49 = .ok (.aload_n 0, 1) := by decide +kernel
theorem dX13_love_50 : decode cX13_love 50 = .ok (.iload_n 1, 1) := by decide +kernel
theorem dX13_love_51 : decode cX13_love 51 = .ok (.iload 4, 2) := by decide +kernel
theorem dX13_love_53 : decode cX13_love 53 = .ok (.invokevirtual 391, 3) := by decide +kernel
theorem dX13_love_56 : decode cX13_love 56 = .ok (.istore 5, 2) := by decide +kernel
theorem dX13_love_58 : decode cX13_love 58 = .ok (.iload 5, 2) := by decide +kernel
theorem dX13_love_60 : decode cX13_love 60 = .ok (.ifCond .lt 19, 3) := by decide +kernel
theorem dX13_love_63 : decode cX13_love 63 = .ok (.iload_n 2, 1) := by decide +kernel
theorem dX13_love_64 : decode cX13_love 64 = .ok (.ifCond .lt 9, 3) := by decide +kernel
theorem dX13_love_67 : decode cX13_love 67 = .ok (.iload 5, 2) := by decide +kernel
theorem dX13_love_69 : decode cX13_love 69 = .ok (.iload_n 3, 1) := by decide +kernel
theorem dX13_love_70 : decode cX13_love 70 = .ok (.if_icmp .ge 9, 3) := by decide +kernel
theorem dX13_love_73 : decode cX13_love 73 = .ok (.iload 4, 2) := by decide +kernel
theorem dX13_love_75 : decode cX13_love 75 = .ok (.istore_n 2, 1) := by decide +kernel
theorem dX13_love_76 : decode cX13_love 76 = .ok (.iload 5, 2) := by decide +kernel
theorem dX13_love_78 : decode cX13_love 78 = .ok (.istore_n 3, 1) := by decide +kernel
theorem dX13_love_79 : decode cX13_love 79 = .ok (.iinc 4 1, 3) := by decide +kernel
theorem dX13_love_82 : decode cX13_love 82 = .ok (.goto (-70), 3) := by decide +kernel
theorem dX13_love_85 : decode cX13_love 85 = .ok (.iload_n 2, 1) := by decide +kernel
theorem dX13_love_86 : decode cX13_love 86 = .ok (.ireturn, 1) := by decide +kernel
theorem dX13_hyphen_0 : decode cX13_hyphen 0 = .ok (.aload_n 0, 1) := by decide +kernel
theorem dX13_hyphen_1 : decode cX13_hyphen 1 = .ok (.iconst 0, 1) := by decide +kernel
theorem dX13_hyphen_2 : decode cX13_hyphen 2 = .ok (.putfield 1, 3) := by decide +kernel
theorem dX13_hyphen_5 : decode cX13_hyphen 5 = .ok (.aload_n 0, 1) := by decide +kernel
theorem dX13_hyphen_6 : decode cX13_hyphen 6 = .ok (.iload_n 1, 1) := by decide +kernel
theorem dX13_hyphen_7 : decode cX13_hyphen 7 = .ok (.invokevirtual 336, 3) := by decide +kernel
theorem dX13_hyphen_10 : decode cX13_hyphen 10 = .ok (.ifCond .ne 5, 3) := by decide +kernel
theorem dX13_hyphen_13 : decode cX13_hyphen 13 = .ok (.iconst (-1), 1) := by decide +kernel
theorem dX13_hyphen_14 : decode cX13_hyphen 14 = .ok (.ireturn, 1) := by decide +kernel
theorem dX13_hyphen_15 : decode cX13_hyphen 15 = .ok (.aload_n 0, 1) := by decide +kernel
theorem dX13_hyphen_16 : decode cX13_hyphen 16 = .ok (.iconst 0, 1) := by decide +kernel
theorem dX13_hyphen_17 : decode cX13_hyphen 17 = .ok (.iload_n 1, 1) := by decide +kernel
theorem dX13_hyphen_18 : decode cX13_hyphen 18 = .ok (.aload_n 0, 1) := by decide +kernel
theorem dX13_hyphen_19 : decode cX13_hyphen 19 = .ok (.iload_n 1, 1) := by decide +kernel
theorem dX13_hyphen_20 : decode cX13_hyphen 20 = .ok (.invokevirtual 313, 3) := by decide +kernel
theorem dX13_hyphen_23 : decode cX13_hyphen 23 = .ok (.invokevirtual 319, 3) := by decide +kernel
theorem dX13_hyphen_26 : decode cX13_hyphen 26 = .ok (.istore_n 2, 1) := by decide +kernel
theorem dX13_hyphen_27 : decode cX13_hyphen 27 = .ok (.iload_n 2, 1) := by decide +kernel
theorem dX13_hyphen_28 : decode cX13_hyphen 28 = .ok (.invokestatic 394, 3) := by decide +kernel
theorem dX13_hyphen_31 : decode cX13_hyphen 31 = .ok (.iconst 1, 1) := by decide +kernel
theorem dX13_hyphen_32 : decode cX13_hyphen 32 = .ok (.isub, 1) := by decide +kernel
theorem dX13_hyphen_33 : decode cX13_hyphen 33 = .ok (.istore_n 3, 1) := by decide +kernel
theorem dX13_hyphen_34 : decode cX13_hyphen 34 = .ok (.iconst 0, 1) := by decide +kernel
theorem dX13_hyphen_35 : decode cX13_hyphen 35 = .ok (.istore 4, 2) := by decide +kernel
theorem dX13_hyphen_37 : decode cX13_hyphen 37 = .ok (.iload 4, 2) := by decide +kernel
theorem dX13_hyphen_39 : decode cX13_hyphen 39 = .ok (.aload_n 0, 1) := by decide +kernel
theorem dX13_hyphen_40 : decode cX13_hyphen 40 = .ok (.invokevirtual 296, 3) := by decide +kernel
theorem dX13_hyphen_43 : decode cX13_hyphen 43 = .ok (.if_icmp .ge 34, 3) := by decide +kernel
theorem dX13_hyphen_46 : decode cX13_hyphen 46 = .ok (.iload_n 3, 1) := by decide +kernel
theorem dX13_hyphen_47 : decode cX13_hyphen 47 = .ok (.iload_n 2, 1) := by decide +kernel
theorem dX13_hyphen_48 : decode cX13_hyphen 48 = .ok (.iload 4, 2) := by decide +kernel
theorem dX13_hyphen_50 : decode cX13_hyphen 50 = .ok (.ishr, 1) := by decide +kernel
theorem dX13_hyphen_51 : decode cX13_hyphen 51 = .ok (.iconst 1, 1) := by decide +kernel
theorem dX13_hyphen_52 : decode cX13_hyphen 52 = .ok (.iand, 1) := by decide +kernel
theorem dX13_hyphen_53 : decode cX13_hyphen 53 = .ok (.iconst 1, 1) := by decide +kernel
theorem dX13_hyphen_54 : decode cX13_hyphen 54 = .ok (.if_icmp .ne 14, 3) := by decide +kernel
theorem dX13_hyphen_57 : decode cX13_hyphen 57 = .ok (.aload_n 0, 1) := by decide +kernel
theorem dX13_hyphen_58 : decode cX13_hyphen 58 = .ok (.iload 4, 2) := by decide +kernel
theorem dX13_hyphen_60 : decode cX13_hyphen 60 = .ok (.bipush 13, 2) := by decide +kernel
theorem dX13_hyphen_62 : decode cX13_hyphen 62 = .ok (.invokevirtual 300, 3) := by decide +kernel
theorem dX13_hyphen_65 : decode cX13_hyphen 65 = .ok (.goto 4, 3) := by decide +kernel
theorem dX13_hyphen_68 : decode cX13_hyphen 68 = .ok (.iconst 0, 1) := by decide +kernel
theorem dX13_hyphen_69 : decode cX13_hyphen 69 = .ok (.iadd, 1) := by decide +kernel
theorem dX13_hyphen_70 : decode cX13_hyphen 70 = .ok (.istore_n 3, 1) := by decide +kernel
theorem dX13_hyphen_71 : decode cX13_hyphen 71 = .ok (.iinc 4 1, 3) := by decide +kernel
theorem dX13_hyphen_74 : decode cX13_hyphen 74 = .ok (.goto (-37), 3) := by decide +kernel
theorem dX13_hyphen_77 : decode cX13_hyphen 77 = .ok (.iload_n 3, 1) := by decide +kernel
theorem dX13_hyphen_78 : decode cX13_hyphen 78 = .ok (.ireturn, 1) := by decide +kernel
theorem dX13_digsIn_0 : decode cX13_digsIn 0 = .ok (.iconst 0, 1) := by decide +kernel
theorem dX13_digsIn_1 : decode cX13_digsIn 1 = .ok (.istore_n 2, 1) := by decide +kernel
theorem dX13_digsIn_2 : decode cX13_digsIn 2 = .ok (.iconst 0, 1) := by decide +kernel
theorem dX13_digsIn_3 : decode cX13_digsIn 3 = .ok (.istore_n 3, 1) := by decide +kernel
theorem dX13_digsIn_4 : decode cX13_digsIn 4 = .ok (.iload_n 3, 1) := by decide +kernel
theorem dX13_digsIn_5 : decode cX13_digsIn 5 = .ok (.aload_n 0, 1) := by decide +kernel
theorem dX13_digsIn_6 : decode cX13_digsIn 6 = .ok (.invokevirtual 296, 3) := by decide +kernel
theorem dX13_digsIn_9 : decode cX13_digsIn 9 = .ok (.if_icmp .ge 36, 3) := by decide +kernel
theorem dX13_digsIn_12 : decode cX13_digsIn 12 = .ok (.iload_n 2, 1) := by decide +kernel
theorem dX13_digsIn_13 : decode cX13_digsIn 13 = .ok (.aload_n 0, 1) := by decide +kernel
theorem dX13_digsIn_14 : decode cX13_digsIn 14 = .ok (.iload_n 1, 1) := by decide +kernel
theorem dX13_digsIn_15 : decode cX13_digsIn 15 = .ok (.iload_n 3, 1) := by decide +kernel
theorem dX13_digsIn_16 : decode cX13_digsIn 16 = .ok (.invokevirtual 303, 3) := by decide +kernel
theorem dX13_digsIn_19 : decode cX13_digsIn 19 = .ok (.ifCond .lt 17, 3) := by decide +kernel
theorem dX13_digsIn_22 : decode cX13_digsIn 22 = .ok (.aload_n 0, 1) := by decide +kernel
theorem dX13_digsIn_23 : decode cX13_digsIn 23 = .ok (.iload_n 3, 1) := by decide +kernel
theorem dX13_digsIn_24 : decode cX13_digsIn 24 = .ok (.aload_n 0, 1) := by decide +kernel
theorem dX13_digsIn_25 : decode cX13_digsIn 25 = .ok (.iload_n 1, 1) := by decide +kernel
theorem dX13_digsIn_26 : decode cX13_digsIn 26 = .ok (.iload_n 3, 1) := by decide +kernel
theorem dX13_digsIn_27 : decode cX13_digsIn 27 = .ok (.invokevirtual 303, 3) := by decide +kernel
theorem dX13_digsIn_30 : decode cX13_digsIn 30 = .ok (.invokevirtual 358, 3) := by decide +kernel
theorem dX13_digsIn_33 : decode cX13_digsIn 33 = .ok (.goto 4, 3) := by decide +kernel
theorem dX13_digsIn_36 : decode cX13_digsIn 36 = .ok (.iconst 0, 1) := by decide +kernel
theorem dX13_digsIn_37 : decode cX13_digsIn 37 = .ok (.iadd, 1) := by decide +kernel
theorem dX13_digsIn_38 : decode cX13_digsIn 38 = .ok (.istore_n 2, 1) := by decide +kernel
theorem dX13_digsIn_39 : decode cX13_digsIn 39 = .ok (.iinc 3 1, 3) := by decide +kernel
theorem dX13_digsIn_42 : decode cX13_digsIn 42 = .ok (.goto (-38), 3) := by decide +kernel
theorem dX13_digsIn_45 : decode cX13_digsIn 45 = .ok (.iload_n 2, 1) := by decide +kernel
theorem dX13_digsIn_46 : decode cX13_digsIn 46 = .ok (.ireturn, 1) := by decide +kernel
theorem dX13_isServedAlways_0 : decode cX13_isServedAlways 0 = .ok (.iconst 1, 1) := by decide +kernel
theorem dX13_isServedAlways_1 : decode cX13_isServedAlways 1 = .ok (.istore_n 1, 1) := by decide +kernel
theorem dX13_isServedAlways_2 : decode cX13_isServedAlways 2 = .ok (.iconst 0, 1) := by decide +kernel
theorem dX13_isServedAlways_3 : decode cX13_isServedAlways 3 = .ok (.istore_n 2, 1) := by decide +kernel
theorem dX13_isServedAlways_4 : decode cX13_isServedAlways 4 = .ok (.iload_n 2, 1) := by decide +kernel
theorem dX13_isServedAlways_5 : decode cX13_isServedAlways 5 = .ok (.iconst 4, 1) := by decide +kernel
theorem dX13_isServedAlways_6 : decode cX13_isServedAlways 6 = .ok (.if_icmp .ge 22, 3) := by decide +kernel
theorem dX13_isServedAlways_9 : decode cX13_isServedAlways 9 = .ok (.iload_n 1, 1) := by decide +kernel
theorem dX13_isServedAlways_10 : decode cX13_isServedAlways 10 = .ok (.ifCond .eq 18, 3) := by decide +kernel
theorem dX13_isServedAlways_13 : decode cX13_isServedAlways 13 = .ok (.aload_n 0, 1) := by decide +kernel
theorem dX13_isServedAlways_14 : decode cX13_isServedAlways 14 = .ok (.sipush 1260, 3) := by decide +kernel
theorem dX13_isServedAlways_17 : decode cX13_isServedAlways 17 = .ok (.iload_n 2, 1) := by decide +kernel
theorem dX13_isServedAlways_18 : decode cX13_isServedAlways 18 = .ok (.invokevirtual 385, 3) := by decide +kernel
theorem dX13_isServedAlways_21 : decode cX13_isServedAlways 21 = .ok (.istore_n 1, 1) := by decide +kernel
theorem dX13_isServedAlways_22 : decode cX13_isServedAlways 22 = .ok (.iinc 2 1, 3) := by decide +kernel
theorem dX13_isServedAlways_25 : decode cX13_isServedAlways 25 = .ok (.goto (-21), 3) := by decide +kernel
theorem dX13_isServedAlways_28 : decode cX13_isServedAlways 28 = .ok (.iload_n 1, 1) := by decide +kernel
theorem dX13_isServedAlways_29 : decode cX13_isServedAlways 29 = .ok (.ireturn, 1) := by decide +kernel
theorem dX13_fitsTold_0 : decode cX13_fitsTold 0 = .ok (.iconst 1, 1) := by decide +kernel
theorem dX13_fitsTold_1 : decode cX13_fitsTold 1 = .ok (.istore_n 1, 1) := by decide +kernel
theorem dX13_fitsTold_2 : decode cX13_fitsTold 2 = .ok (.iconst 0, 1) := by decide +kernel
theorem dX13_fitsTold_3 : decode cX13_fitsTold 3 = .ok (.istore_n 2, 1) := by decide +kernel
theorem dX13_fitsTold_4 : decode cX13_fitsTold 4 = .ok (.iload_n 2, 1) := by decide +kernel
theorem dX13_fitsTold_5 : decode cX13_fitsTold 5 = .ok (.aload_n 0, 1) := by decide +kernel
theorem dX13_fitsTold_6 : decode cX13_fitsTold 6 = .ok (.getfield 126, 3) := by decide +kernel
theorem dX13_fitsTold_9 : decode cX13_fitsTold 9 = .ok (.bipush 26, 2) := by decide +kernel
theorem dX13_fitsTold_11 : decode cX13_fitsTold 11 = .ok (.iaload, 1) := by decide +kernel
theorem dX13_fitsTold_12 : decode cX13_fitsTold 12 = .ok (.if_icmp .ge 58, 3) := by decide +kernel
theorem dX13_fitsTold_15 : decode cX13_fitsTold 15 = .ok (.iload_n 1, 1) := by decide +kernel
theorem dX13_fitsTold_16 : decode cX13_fitsTold 16 = .ok (.ifCond .eq 54, 3) := by decide +kernel
theorem dX13_fitsTold_19 : decode cX13_fitsTold 19 = .ok (.bipush 27, 2) := by decide +kernel
theorem dX13_fitsTold_21 : decode cX13_fitsTold 21 = .ok (.iconst 3, 1) := by decide +kernel
theorem dX13_fitsTold_22 : decode cX13_fitsTold 22 = .ok (.iload_n 2, 1) := by decide +kernel
theorem dX13_fitsTold_23 : decode cX13_fitsTold 23 = .ok (.imul, 1) := by decide +kernel
theorem dX13_fitsTold_24 : decode cX13_fitsTold 24 = .ok (.iadd, 1) := by decide +kernel
theorem dX13_fitsTold_25 : decode cX13_fitsTold 25 = .ok (.istore_n 3, 1) := by decide +kernel
theorem dX13_fitsTold_26 : decode cX13_fitsTold 26 = .ok (.aload_n 0, 1) := by decide +kernel
theorem dX13_fitsTold_27 : decode cX13_fitsTold 27 = .ok (.sipush 1260, 3) := by decide +kernel
theorem dX13_fitsTold_30 : decode cX13_fitsTold 30 = .ok (.aload_n 0, 1) := by decide +kernel
theorem dX13_fitsTold_31 : decode cX13_fitsTold 31 = .ok (.getfield 126, 3) := by decide +kernel
theorem dX13_fitsTold_34 : decode cX13_fitsTold 34 = .ok (.iload_n 3, 1) := by decide +kernel
theorem dX13_fitsTold_35 : decode cX13_fitsTold 35 = .ok (.iaload, 1) := by decide +kernel
theorem dX13_fitsTold_36 : decode cX13_fitsTold 36 = .ok (.aload_n 0, 1) := by decide +kernel
theorem dX13_fitsTold_37 : decode cX13_fitsTold 37 = .ok (.getfield 126, 3) := by decide +kernel
theorem dX13_fitsTold_40 : decode cX13_fitsTold 40 = .ok (.iload_n 3, 1) := by decide +kernel
theorem dX13_fitsTold_41 : decode cX13_fitsTold 41 = .ok (.iconst 1, 1) := by decide +kernel
theorem dX13_fitsTold_42 : decode cX13_fitsTold 42 = .ok (.iadd, 1) := by decide +kernel
theorem dX13_fitsTold_43 : decode cX13_fitsTold 43 = .ok (.iaload, 1) := by decide +kernel
theorem dX13_fitsTold_44 : decode cX13_fitsTold 44 = .ok (.invokevirtual 370, 3) := by decide +kernel
theorem dX13_fitsTold_47 : decode cX13_fitsTold 47 = .ok (.aload_n 0, 1) := by decide +kernel
theorem dX13_fitsTold_48 : decode cX13_fitsTold 48 = .ok (.getfield 126, 3) := by decide +kernel
theorem dX13_fitsTold_51 : decode cX13_fitsTold 51 = .ok (.iload_n 3, 1) := by decide +kernel
theorem dX13_fitsTold_52 : decode cX13_fitsTold 52 = .ok (.iconst 2, 1) := by decide +kernel
theorem dX13_fitsTold_53 : decode cX13_fitsTold 53 = .ok (.iadd, 1) := by decide +kernel
theorem dX13_fitsTold_54 : decode cX13_fitsTold 54 = .ok (.iaload, 1) := by decide +kernel
theorem dX13_fitsTold_55 : decode cX13_fitsTold 55 = .ok (.if_icmp .ne 7, 3) := by decide +kernel
theorem dX13_fitsTold_58 : decode cX13_fitsTold 58 = .ok (.iconst 1, 1) := by decide +kernel
theorem dX13_fitsTold_59 : decode cX13_fitsTold 59 = .ok (.goto 4, 3) := by decide +kernel
theorem dX13_fitsTold_62 : decode cX13_fitsTold 62 = .ok (.iconst 0, 1) := by decide +kernel
theorem dX13_fitsTold_63 : decode cX13_fitsTold 63 = .ok (.istore_n 1, 1) := by decide +kernel
theorem dX13_fitsTold_64 : decode cX13_fitsTold 64 = .ok (.iinc 2 1, 3) := by decide +kernel
theorem dX13_fitsTold_67 : decode cX13_fitsTold 67 = .ok (.goto (-63), 3) := by decide +kernel
theorem dX13_fitsTold_70 : decode cX13_fitsTold 70 = .ok (.iload_n 1, 1) := by decide +kernel
theorem dX13_fitsTold_71 : decode cX13_fitsTold 71 = .ok (.ireturn, 1) := by decide +kernel
theorem dX13_looks_0 : decode cX13_looks 0 = .ok (.aload_n 0, 1) := by decide +kernel
theorem dX13_looks_1 : decode cX13_looks 1 = .ok (.getfield 397, 3) := by decide +kernel
theorem dX13_looks_4 : decode cX13_looks 4 = .ok (.ifCond .ne 13, 3) := by decide +kernel
theorem dX13_looks_7 : decode cX13_looks 7 = .ok (.aload_n 0, 1) := by decide +kernel
theorem dX13_looks_8 : decode cX13_looks 8 = .ok (.invokevirtual 400, 3) := by decide +kernel
theorem dX13_looks_11 : decode cX13_looks 11 = .ok (.ifCond .ne 14, 3) := by decide +kernel
theorem dX13_looks_14 : decode cX13_looks 14 = .ok (.goto 10, 3) := by decide +kernel
theorem dX13_looks_17 : decode cX13_looks 17 = .ok (.aload_n 0, 1) := by decide +kernel
theorem dX13_looks_18 : decode cX13_looks 18 = .ok (.invokevirtual 403, 3) := by decide +kernel
theorem dX13_looks_21 : decode cX13_looks 21 = .ok (.ifCond .ne 4, 3) := by decide +kernel
theorem dX13_looks_24 : decode cX13_looks 24 = .ok (.return_, 1) := by decide +kernel
theorem dX13_looks_25 : decode cX13_looks 25 = .ok (.aload_n 0, 1) := by decide +kernel
theorem dX13_looks_26 : decode cX13_looks 26 = .ok (.getfield 397, 3) := by decide +kernel
theorem dX13_looks_29 : decode cX13_looks 29 = .ok (.ifCond .ne 13, 3) := by decide +kernel
theorem dX13_looks_32 : decode cX13_looks 32 = .ok (.aload_n 0, 1) := by decide +kernel
theorem dX13_looks_33 : decode cX13_looks 33 = .ok (.sipush 1260, 3) := by decide +kernel
theorem dX13_looks_36 : decode cX13_looks 36 = .ok (.invokevirtual 406, 3) := by decide +kernel
theorem dX13_looks_39 : decode cX13_looks 39 = .ok (.goto 4, 3) := by decide +kernel
theorem dX13_looks_42 : decode cX13_looks 42 = .ok (.iconst 0, 1) := by decide +kernel
theorem dX13_looks_43 : decode cX13_looks 43 = .ok (.istore_n 1, 1) := by decide +kernel
theorem dX13_looks_44 : decode cX13_looks 44 = .ok (.aload_n 0, 1) := by decide +kernel
theorem dX13_looks_45 : decode cX13_looks 45 = .ok (.sipush 1260, 3) := by decide +kernel
theorem dX13_looks_48 : decode cX13_looks 48 = .ok (.invokevirtual 388, 3) := by decide +kernel
theorem dX13_looks_51 : decode cX13_looks 51 = .ok (.istore_n 2, 1) := by decide +kernel
theorem dX13_looks_52 : decode cX13_looks 52 = .ok (.aload_n 0, 1) := by decide +kernel
theorem dX13_looks_53 : decode cX13_looks 53 = .ok (.getfield 409, 3) := by decide +kernel
theorem dX13_looks_56 : decode cX13_looks 56 = .ok (.ifCond .eq 27, 3) := by decide +kernel
theorem dX13_looks_59 : decode cX13_looks 59 = .ok (.iload_n 1, 1) := by decide +kernel
theorem dX13_looks_60 : decode cX13_looks 60 = .ok (.aload_n 0, 1) := by decide +kernel
theorem dX13_looks_61 : decode cX13_looks 61 = .ok (.getfield 412, 3) := by decide +kernel
theorem dX13_looks_64 : decode cX13_looks 64 = .ok (.if_icmp .lt 19, 3) := by decide +kernel
theorem dX13_looks_67 : decode cX13_looks 67 = .ok (.iload_n 1, 1) := by decide +kernel
theorem dX13_looks_68 : decode cX13_looks 68 = .ok (.aload_n 0, 1) := by decide +kernel
theorem dX13_looks_69 : decode cX13_looks 69 = .ok (.getfield 412, 3) := by decide +kernel
theorem dX13_looks_72 : decode cX13_looks 72 = .ok (.if_icmp .ne 15, 3) := by decide +kernel
theorem dX13_looks_75 : decode cX13_looks 75 = .ok (.iload_n 2, 1) := by decide +kernel
theorem dX13_looks_76 : decode cX13_looks 76 = .ok (.aload_n 0, 1) := by decide +kernel
theorem dX13_looks_77 : decode cX13_looks 77 = .ok (.getfield 415, 3) := by decide +kernel
theorem dX13_looks_80 : decode cX13_looks 80 = .ok (.if_icmp .ge 7, 3) := by decide +kernel
theorem dX13_looks_83 : decode cX13_looks 83 = .ok (.iconst 1, 1) := by decide +kernel
theorem dX13_looks_84 : decode cX13_looks 84 = .ok (.goto 4, 3) := by decide +kernel
theorem dX13_looks_87 : decode cX13_looks 87 = .ok (.iconst 0, 1) := by decide +kernel
theorem dX13_looks_88 : decode cX13_looks 88 = .ok (.istore_n 3, 1) := by decide +kernel
theorem dX13_looks_89 : decode cX13_looks 89 = .ok (.iconst 0, 1) := by decide +kernel
theorem dX13_looks_90 : decode cX13_looks 90 = .ok (.istore 4, 2) := by decide +kernel
theorem dX13_looks_92 : decode cX13_looks 92 = .ok (.iload 4, 2) := by decide +kernel
theorem dX13_looks_94 : decode cX13_looks 94 = .ok (.aload_n 0, 1) := by decide +kernel
theorem dX13_looks_95 : decode cX13_looks 95 = .ok (.invokevirtual 296, 3) := by decide +kernel
theorem dX13_looks_98 : decode cX13_looks 98 = .ok (.if_icmp .ge 131, 3) := by decide +kernel
theorem dX13_looks_101 : decode cX13_looks 101 = .ok (.aload_n 0, 1) := by decide +kernel
theorem dX13_looks_102 : decode cX13_looks 102 = .ok (.sipush 1260, 3) := by decide +kernel
theorem dX13_looks_105 : decode cX13_looks 105 = .ok (.iload 4, 2) := by decide +kernel
theorem dX13_looks_107 : decode cX13_looks 107 = .ok (.invokevirtual 303, 3) := by decide +kernel
theorem dX13_looks_110 : decode cX13_looks 110 = .ok (.istore 5, 2) := by decide +kernel
theorem dX13_looks_112 : decode cX13_looks 112 = .ok (.aload_n 0, 1) := by decide +kernel
theorem dX13_looks_113 : decode cX13_looks 113 = .ok (.getfield 139, 3) := by decide +kernel
theorem dX13_looks_116 : decode cX13_looks 116 = .ok (.iload 4, 2) := by decide +kernel
theorem dX13_looks_118 : decode cX13_looks 118 = .ok (.aload_n 0, 1) := by decide +kernel
theorem dX13_looks_119 : decode cX13_looks 119 = .ok (.getfield 409, 3) := by decide +kernel
theorem dX13_looks_122 : decode cX13_looks 122 = .ok (.ifCond .eq 15, 3) := by decide +kernel
theorem dX13_looks_125 : decode cX13_looks 125 = .ok (.aload_n 0, 1) := by decide +kernel
theorem dX13_looks_126 : decode cX13_looks 126 = .ok (.getfield 139, 3) := by decide +kernel
theorem dX13_looks_129 : decode cX13_looks 129 = .ok (.iload 4, 2) := by decide +kernel
theorem dX13_looks_131 : decode cX13_looks 131 = .ok (.iaload, 1) := by decide +kernel
theorem dX13_looks_132 : decode cX13_looks 132 = .ok (.iload 5, 2) := by decide +kernel
theorem dX13_looks_134 : decode cX13_looks 134 = .ok (.if_icmp .ne 8, 3) := by decide +kernel
theorem dX13_looks_137 : decode cX13_looks 137 = .ok (.iload 5, 2) := by decide +kernel
theorem dX13_looks_139 : decode cX13_looks 139 = .ok (.goto 5, 3) := by decide +kernel
theorem dX13_looks_142 : decode cX13_looks 142 = .ok (.bipush (-2), 2) := by decide +kernel
theorem dX13_looks_144 : decode cX13_looks 144 = .ok (.iastore, 1) := by decide +kernel
theorem dX13_looks_145 : decode cX13_looks 145 = .ok (.aload_n 0, 1) := by decide +kernel
theorem dX13_looks_146 : decode cX13_looks 146 = .ok (.getfield 136, 3) := by decide +kernel
theorem dX13_looks_149 : decode cX13_looks 149 = .ok (.iload 4, 2) := by decide +kernel
theorem dX13_looks_151 : decode cX13_looks 151 = .ok (.iload_n 3, 1) := by decide +kernel
theorem dX13_looks_152 : decode cX13_looks 152 = .ok (.ifCond .eq 8, 3) := by decide +kernel
theorem dX13_looks_155 : decode cX13_looks 155 = .ok (.iload 5, 2) := by decide +kernel
theorem dX13_looks_157 : decode cX13_looks 157 = .ok (.goto 10, 3) := by decide +kernel
theorem dX13_looks_160 : decode cX13_looks 160 = .ok (.aload_n 0, 1) := by decide +kernel
theorem dX13_looks_161 : decode cX13_looks 161 = .ok (.getfield 136, 3) := by decide +kernel
theorem dX13_looks_164 : decode cX13_looks 164 = .ok (.iload 4, 2) := by decide +kernel
theorem dX13_looks_166 : decode cX13_looks 166 = .ok (.iaload, 1) := by decide +kernel
theorem dX13_looks_167 : decode cX13_looks 167 = .ok (.iastore, 1) := by decide +kernel
theorem dX13_looks_168 : decode cX13_looks 168 = .ok (.iconst 0, 1) := by decide +kernel
theorem dX13_looks_169 : decode cX13_looks 169 = .ok (.istore 6, 2) := by decide +kernel
theorem dX13_looks_171 : decode cX13_looks 171 = .ok (.iload 6, 2) := by decide +kernel
theorem dX13_looks_173 : decode cX13_looks 173 = .ok (.iconst 4, 1) := by decide +kernel
theorem dX13_looks_174 : decode cX13_looks 174 = .ok (.if_icmp .ge 49, 3) := by decide +kernel
theorem dX13_looks_177 : decode cX13_looks 177 = .ok (.aload_n 0, 1) := by decide +kernel
theorem dX13_looks_178 : decode cX13_looks 178 = .ok (.getfield 397, 3) := by decide +kernel
theorem dX13_looks_181 : decode cX13_looks 181 = .ok (.iconst 1, 1) := by decide +kernel
theorem dX13_looks_182 : decode cX13_looks 182 = .ok (.if_icmp .ne 41, 3) := by decide +kernel
theorem dX13_looks_185 : decode cX13_looks 185 = .ok (.aload_n 0, 1) := by decide +kernel
theorem dX13_looks_186 : decode cX13_looks 186 = .ok (.getfield 142, 3) := by decide +kernel
theorem dX13_looks_189 : decode cX13_looks 189 = .ok (.sipush 600, 3) := by decide +kernel
theorem dX13_looks_192 : decode cX13_looks 192 = .ok (.iconst 4, 1) := by decide +kernel
theorem dX13_looks_193 : decode cX13_looks 193 = .ok (.iload 4, 2) := by decide +kernel
theorem dX13_looks_195 : decode cX13_looks 195 = .ok (.imul, 1) := by decide +kernel
theorem dX13_looks_196 : decode cX13_looks 196 = .ok (.iload 6, 2) := by decide +kernel
theorem dX13_looks_198 : decode cX13_looks 198 = .ok (.iadd, 1) := by decide +kernel
theorem dX13_looks_199 : decode cX13_looks 199 = .ok (.imul, 1) := by decide +kernel
theorem dX13_looks_200 : decode cX13_looks 200 = .ok (.aload_n 0, 1) := by decide +kernel
theorem dX13_looks_201 : decode cX13_looks 201 = .ok (.sipush 1260, 3) := by decide +kernel
theorem dX13_looks_204 : decode cX13_looks 204 = .ok (.iload 4, 2) := by decide +kernel
theorem dX13_looks_206 : decode cX13_looks 206 = .ok (.iload 6, 2) := by decide +kernel
theorem dX13_looks_208 : decode cX13_looks 208 = .ok (.invokevirtual 370, 3) := by decide +kernel
theorem dX13_looks_211 : decode cX13_looks 211 = .ok (.iadd, 1) := by decide +kernel
theorem dX13_looks_212 : decode cX13_looks 212 = .ok (.dup2, 1) := by decide +kernel
theorem dX13_looks_213 : decode cX13_looks 213 = .ok (.iaload, 1) := by decide +kernel
theorem dX13_looks_214 : decode cX13_looks 214 = .ok (.iconst 1, 1) := by decide +kernel
theorem dX13_looks_215 : decode cX13_looks 215 = .ok (.iadd, 1) := by decide +kernel
theorem dX13_looks_216 : decode cX13_looks 216 = .ok (.iastore, 1) := by decide +kernel
theorem dX13_looks_217 : decode cX13_looks 217 = .ok (.iinc 6 1, 3) := by decide +kernel
theorem dX13_looks_220 : decode cX13_looks 220 = .ok (.goto (-49), 3) := by decide +kernel
theorem dX13_looks_223 : decode cX13_looks 223 = .ok (.iinc 4 1, 3) := by decide +kernel
theorem dX13_looks_226 : decode cX13_looks 226 = .ok (.goto (-134), 3) := by decide +kernel
theorem dX13_looks_229 : decode cX13_looks 229 = .ok (.aload_n 0, 1) := by decide +kernel
theorem dX13_looks_230 : decode cX13_looks 230 = .ok (.iload_n 3, 1) := by decide +kernel
theorem dX13_looks_231 : decode cX13_looks 231 = .ok (.ifCond .eq 7, 3) := by decide +kernel
theorem dX13_looks_234 : decode cX13_looks 234 = .ok (.iload_n 1, 1) := by decide +kernel
theorem dX13_looks_235 : decode cX13_looks 235 = .ok (.goto 7, 3) := by decide +kernel
theorem dX13_looks_238 : decode cX13_looks 238 = .ok (.aload_n 0, 1) := by decide +kernel
theorem dX13_looks_239 : decode cX13_looks 239 = .ok (.getfield 412, 3) := by decide +kernel
theorem dX13_looks_242 : decode cX13_looks 242 = .ok (.putfield 412, 3) := by decide +kernel
theorem dX13_looks_245 : decode cX13_looks 245 = .ok (.aload_n 0, 1) := by decide +kernel
theorem dX13_looks_246 : decode cX13_looks 246 = .ok (.iload_n 3, 1) := by decide +kernel
theorem dX13_looks_247 : decode cX13_looks 247 = .ok (.ifCond .eq 7, 3) := by decide +kernel
theorem dX13_looks_250 : decode cX13_looks 250 = .ok (.iload_n 2, 1) := by decide +kernel
theorem dX13_looks_251 : decode cX13_looks 251 = .ok (.goto 7, 3) := by decide +kernel
theorem dX13_looks_254 : decode cX13_looks 254 = .ok (.aload_n 0, 1) := by decide +kernel
theorem dX13_looks_255 : decode cX13_looks 255 = .ok (.getfield 415, 3) := by decide +kernel
theorem dX13_looks_258 : decode cX13_looks 258 = .ok (.putfield 415, 3) := by decide +kernel
theorem dX13_looks_261 : decode cX13_looks 261 = .ok (.aload_n 0, 1) := by decide +kernel
theorem dX13_looks_262 : decode cX13_looks 262 = .ok (.dup, 1) := by decide +kernel
theorem dX13_looks_263 : decode cX13_looks 263 = .ok (.getfield 409, 3) := by decide +kernel
theorem dX13_looks_266 : decode cX13_looks 266 = .ok (.iconst 1, 1) := by decide +kernel
theorem dX13_looks_267 : decode cX13_looks 267 = .ok (.iadd, 1) := by decide +kernel
theorem dX13_looks_268 : decode cX13_looks 268 = .ok (.putfield 409, 3) := by decide +kernel
theorem dX13_looks_271 : decode cX13_looks 271 = .ok (.return_, 1) := by decide +kernel
theorem dX13_goesThrough_0 : decode cX13_goesThrough 0 = .ok (.iload_n 1, 1) := by decide +kernel
theorem dX13_goesThrough_1 : decode cX13_goesThrough 1 = .ok (.aload_n 0, 1) := by decide +kernel
theorem dX13_goesThrough_2 : decode cX13_goesThrough 2 = .ok (.invokevirtual 296, 3) := by decide +kernel
theorem dX13_goesThrough_5 : decode cX13_goesThrough 5 = .ok (.if_icmp .ne 8, 3) := by decide +kernel
theorem dX13_goesThrough_8 : decode cX13_goesThrough 8 = .ok (.aload_n 0, 1) := by decide +kernel
theorem dX13_goesThrough_9 : decode cX13_goesThrough 9 = .ok (.invokevirtual 418, 3) := by decide +kernel
theorem dX13_goesThrough_12 : decode cX13_goesThrough 12 = .ok (.return_, 1) := by decide +kernel
theorem dX13_goesThrough_13 : decode cX13_goesThrough 13 = .ok (.aload_n 0, 1) := by decide +kernel
theorem dX13_goesThrough_14 : decode cX13_goesThrough 14 = .ok (.iload_n 1, 1) := by decide +kernel
theorem dX13_goesThrough_15 : decode cX13_goesThrough 15 = .ok (.iconst 1, 1) := by decide +kernel
theorem dX13_goesThrough_16 : decode cX13_goesThrough 16 = .ok (.iadd, 1) := by decide +kernel
theorem dX13_goesThrough_17 : decode cX13_goesThrough 17 = .ok (.invokevirtual 421, 3) := by decide +kernel
theorem dX13_goesThrough_20 : decode cX13_goesThrough 20 = .ok (.iconst 0, 1) := by decide +kernel
theorem dX13_goesThrough_21 : decode cX13_goesThrough 21 = .ok (.istore_n 2, 1) := by decide +kernel
theorem dX13_goesThrough_22 : decode cX13_goesThrough 22 = .ok (.iload_n 2, 1) := by decide +kernel
theorem dX13_goesThrough_23 : decode cX13_goesThrough 23 = .ok (.aload_n 0, 1) := by decide +kernel
theorem dX13_goesThrough_24 : decode cX13_goesThrough 24 = .ok (.invokevirtual 296, 3) := by decide +kernel
theorem dX13_goesThrough_27 : decode cX13_goesThrough 27 = .ok (.if_icmp .ge 50, 3) := by decide +kernel
theorem dX13_goesThrough_30 : decode cX13_goesThrough 30 = .ok (.aload_n 0, 1) := by decide +kernel
theorem dX13_goesThrough_31 : decode cX13_goesThrough 31 = .ok (.sipush 1260, 3) := by decide +kernel
theorem dX13_goesThrough_34 : decode cX13_goesThrough 34 = .ok (.iload_n 1, 1) := by decide +kernel
theorem dX13_goesThrough_35 : decode cX13_goesThrough 35 = .ok (.iload_n 2, 1) := by decide +kernel
theorem dX13_goesThrough_36 : decode cX13_goesThrough 36 = .ok (.invokevirtual 361, 3) := by decide +kernel
theorem dX13_goesThrough_39 : decode cX13_goesThrough 39 = .ok (.ifCond .eq 32, 3) := by decide +kernel
theorem dX13_goesThrough_42 : decode cX13_goesThrough 42 = .ok (.aload_n 0, 1) := by decide +kernel
theorem dX13_goesThrough_43 : decode cX13_goesThrough 43 = .ok (.getfield 126, 3) := by decide +kernel
theorem dX13_goesThrough_46 : decode cX13_goesThrough 46 = .ok (.sipush 1261, 3) := by decide +kernel
theorem dX13_goesThrough_49 : decode cX13_goesThrough 49 = .ok (.iload_n 1, 1) := by decide +kernel
theorem dX13_goesThrough_50 : decode cX13_goesThrough 50 = .ok (.iadd, 1) := by decide +kernel
theorem dX13_goesThrough_51 : decode cX13_goesThrough 51 = .ok (.iload_n 2, 1) := by decide +kernel
theorem dX13_goesThrough_52 : decode cX13_goesThrough 52 = .ok (.iastore, 1) := by decide +kernel
theorem dX13_goesThrough_53 : decode cX13_goesThrough 53 = .ok (.aload_n 0, 1) := by decide +kernel
theorem dX13_goesThrough_54 : decode cX13_goesThrough 54 = .ok (.iload_n 1, 1) := by decide +kernel
theorem dX13_goesThrough_55 : decode cX13_goesThrough 55 = .ok (.iconst 1, 1) := by decide +kernel
theorem dX13_goesThrough_56 : decode cX13_goesThrough 56 = .ok (.iadd, 1) := by decide +kernel
theorem dX13_goesThrough_57 : decode cX13_goesThrough 57 = .ok (.invokevirtual 421, 3) := by decide +kernel
theorem dX13_goesThrough_60 : decode cX13_goesThrough 60 = .ok (.aload_n 0, 1) := by decide +kernel
theorem dX13_goesThrough_61 : decode cX13_goesThrough 61 = .ok (.getfield 126, 3) := by decide +kernel
theorem dX13_goesThrough_64 : decode cX13_goesThrough 64 = .ok (.sipush 1261, 3) := by decide +kernel
theorem dX13_goesThrough_67 : decode cX13_goesThrough 67 = .ok (.iload_n 1, 1) := by decide +kernel
theorem dX13_goesThrough_68 : decode cX13_goesThrough 68 = .ok (.iadd, 1) := by decide +kernel
theorem dX13_goesThrough_69 : decode cX13_goesThrough 69 = .ok (.iconst (-1), 1) := by decide +kernel
theorem dX13_goesThrough_70 : decode cX13_goesThrough 70 = .ok (.iastore, 1) := by decide +kernel
theorem dX13_goesThrough_71 : decode cX13_goesThrough 71 = .ok (.iinc 2 1, 3) := by decide +kernel
theorem dX13_goesThrough_74 : decode cX13_goesThrough 74 = .ok (.goto (-52), 3) := by decide +kernel
theorem dX13_goesThrough_77 : decode cX13_goesThrough 77 = .ok (.return_, 1) := by decide +kernel
theorem dX13_seeks_0 : decode cX13_seeks 0 = .ok (.aload_n 0, 1) := by decide +kernel
theorem dX13_seeks_1 : decode cX13_seeks 1 = .ok (.iload_n 1, 1) := by decide +kernel
theorem dX13_seeks_2 : decode cX13_seeks 2 = .ok (.putfield 397, 3) := by decide +kernel
theorem dX13_seeks_5 : decode cX13_seeks 5 = .ok (.aload_n 0, 1) := by decide +kernel
theorem dX13_seeks_6 : decode cX13_seeks 6 = .ok (.iconst 0, 1) := by decide +kernel
theorem dX13_seeks_7 : decode cX13_seeks 7 = .ok (.putfield 409, 3) := by decide +kernel
theorem dX13_seeks_10 : decode cX13_seeks 10 = .ok (.aload_n 0, 1) := by decide +kernel
theorem dX13_seeks_11 : decode cX13_seeks 11 = .ok (.sipush 1260, 3) := by decide +kernel
theorem dX13_seeks_14 : decode cX13_seeks 14 = .ok (.invokevirtual 286, 3) := by decide +kernel
theorem dX13_seeks_17 : decode cX13_seeks 17 = .ok (.aload_n 0, 1) := by decide +kernel
theorem dX13_seeks_18 : decode cX13_seeks 18 = .ok (.iconst 0, 1) := by decide +kernel
theorem dX13_seeks_19 : decode cX13_seeks 19 = .ok (.invokevirtual 421, 3) := by decide +kernel
theorem dX13_seeks_22 : decode cX13_seeks 22 = .ok (.return_, 1) := by decide +kernel
theorem dX13_match_0 : decode cX13_match 0 = .ok (.aload_n 0, 1) := by decide +kernel
theorem dX13_match_1 : decode cX13_match 1 = .ok (.iconst 0, 1) := by decide +kernel
theorem dX13_match_2 : decode cX13_match 2 = .ok (.putfield 1, 3) := by decide +kernel
theorem dX13_match_5 : decode cX13_match 5 = .ok (.iload_n 1, 1) := by decide +kernel
theorem dX13_match_6 : decode cX13_match 6 = .ok (.iconst 0, 1) := by decide +kernel
theorem dX13_match_7 : decode cX13_match 7 = .ok (.iconst 2, 1) := by decide +kernel
theorem dX13_match_8 : decode cX13_match 8 = .ok (.aload_n 0, 1) := by decide +kernel
theorem dX13_match_9 : decode cX13_match 9 = .ok (.invokevirtual 296, 3) := by decide +kernel
theorem dX13_match_12 : decode cX13_match 12 = .ok (.iadd, 1) := by decide +kernel
theorem dX13_match_13 : decode cX13_match 13 = .ok (.invokestatic 339, 3) := by decide +kernel
theorem dX13_match_16 : decode cX13_match 16 = .ok (.ifCond .ne 6, 3) := by decide +kernel
theorem dX13_match_19 : decode cX13_match 19 = .ok (.bipush (-2), 2) := by decide +kernel
theorem dX13_match_21 : decode cX13_match 21 = .ok (.ireturn, 1) := by decide +kernel
theorem dX13_match_22 : decode cX13_match 22 = .ok (.aload_n 0, 1) := by decide +kernel
theorem dX13_match_23 : decode cX13_match 23 = .ok (.iconst 0, 1) := by decide +kernel
theorem dX13_match_24 : decode cX13_match 24 = .ok (.invokevirtual 424, 3) := by decide +kernel
theorem dX13_match_27 : decode cX13_match 27 = .ok (.aload_n 0, 1) := by decide +kernel
theorem dX13_match_28 : decode cX13_match 28 = .ok (.getfield 409, 3) := by decide +kernel
theorem dX13_match_31 : decode cX13_match 31 = .ok (.ifCond .ne 6, 3) := by decide +kernel
theorem dX13_match_34 : decode cX13_match 34 = .ok (.bipush (-2), 2) := by decide +kernel
theorem dX13_match_36 : decode cX13_match 36 = .ok (.ireturn, 1) := by decide +kernel
theorem dX13_match_37 : decode cX13_match 37 = .ok (.iload_n 1, 1) := by decide +kernel
theorem dX13_match_38 : decode cX13_match 38 = .ok (.ifCond .ne 10, 3) := by decide +kernel
theorem dX13_match_41 : decode cX13_match 41 = .ok (.aload_n 0, 1) := by decide +kernel
theorem dX13_match_42 : decode cX13_match 42 = .ok (.getfield 412, 3) := by decide +kernel
theorem dX13_match_45 : decode cX13_match 45 = .ok (.goto 35, 3) := by decide +kernel
theorem dX13_match_48 : decode cX13_match 48 = .ok (.iload_n 1, 1) := by decide +kernel
theorem dX13_match_49 : decode cX13_match 49 = .ok (.iconst 1, 1) := by decide +kernel
theorem dX13_match_50 : decode cX13_match 50 = .ok (.if_icmp .ne 10, 3) := by decide +kernel
theorem dX13_match_53 : decode cX13_match 53 = .ok (.aload_n 0, 1) := by decide +kernel
theorem dX13_match_54 : decode cX13_match 54 = .ok (.getfield 415, 3) := by decide +kernel
theorem dX13_match_57 : decode cX13_match 57 = .ok (.goto 23, 3) := by decide +kernel
theorem dX13_match_60 : decode cX13_match 60 = .ok (.iload_n 1, 1) := by decide +kernel
theorem dX13_match_61 : decode cX13_match 61 = .ok (.iconst 2, 1) := by decide +kernel
theorem dX13_match_62 : decode cX13_match 62 = .ok (.if_icmp .ne 10, 3) := by decide +kernel
theorem dX13_match_65 : decode cX13_match 65 = .ok (.aload_n 0, 1) := by decide +kernel
theorem dX13_match_66 : decode cX13_match 66 = .ok (.getfield 409, 3) := by decide +kernel
theorem dX13_match_69 : decode cX13_match 69 = .ok (.goto 11, 3) := by decide +kernel
theorem dX13_match_72 : decode cX13_match 72 = .ok (.aload_n 0, 1) := by decide +kernel
theorem dX13_match_73 : decode cX13_match 73 = .ok (.getfield 136, 3) := by decide +kernel
theorem dX13_match_76 : decode cX13_match 76 = .ok (.iload_n 1, 1) := by decide +kernel
theorem dX13_match_77 : decode cX13_match 77 = .ok (.iconst 3, 1) := by decide +kernel
theorem dX13_match_78 : decode cX13_match 78 = .ok (.isub, 1) := by decide +kernel
theorem dX13_match_79 : decode cX13_match 79 = .ok (.iaload, 1) := by decide +kernel
theorem dX13_match_80 : decode cX13_match 80 = .ok (.ireturn, 1) := by decide +kernel
theorem dX13_goesOn_0 : decode cX13_goesOn 0 = .ok (.aload_n 0, 1) := by decide +kernel
theorem dX13_goesOn_1 : decode cX13_goesOn 1 = .ok (.getfield 145, 3) := by decide +kernel
theorem dX13_goesOn_4 : decode cX13_goesOn 4 = .ok (.iload_n 1, 1) := by decide +kernel
theorem dX13_goesOn_5 : decode cX13_goesOn 5 = .ok (.iaload, 1) := by decide +kernel
theorem dX13_goesOn_6 : decode cX13_goesOn 6 = .ok (.istore 4, 2) := by decide +kernel
theorem dX13_goesOn_8 : decode cX13_goesOn 8 = .ok (.iload 4, 2) := by decide +kernel
theorem dX13_goesOn_10 : decode cX13_goesOn 10 = .ok (.iload_n 2, 1) := by decide +kernel
theorem dX13_goesOn_11 : decode cX13_goesOn 11 = .ok (.if_icmp .ne 74, 3) := by decide +kernel
theorem dX13_goesOn_14 : decode cX13_goesOn 14 = .ok (.aload_n 0, 1) := by decide +kernel
theorem dX13_goesOn_15 : decode cX13_goesOn 15 = .ok (.getfield 427, 3) := by decide +kernel
theorem dX13_goesOn_18 : decode cX13_goesOn 18 = .ok (.ifCond .lt 27, 3) := by decide +kernel
theorem dX13_goesOn_21 : decode cX13_goesOn 21 = .ok (.iload_n 3, 1) := by decide +kernel
theorem dX13_goesOn_22 : decode cX13_goesOn 22 = .ok (.aload_n 0, 1) := by decide +kernel
theorem dX13_goesOn_23 : decode cX13_goesOn 23 = .ok (.getfield 430, 3) := by decide +kernel
theorem dX13_goesOn_26 : decode cX13_goesOn 26 = .ok (.if_icmp .lt 19, 3) := by decide +kernel
theorem dX13_goesOn_29 : decode cX13_goesOn 29 = .ok (.iload_n 3, 1) := by decide +kernel
theorem dX13_goesOn_30 : decode cX13_goesOn 30 = .ok (.aload_n 0, 1) := by decide +kernel
theorem dX13_goesOn_31 : decode cX13_goesOn 31 = .ok (.getfield 430, 3) := by decide +kernel
theorem dX13_goesOn_34 : decode cX13_goesOn 34 = .ok (.if_icmp .ne 50, 3) := by decide +kernel
theorem dX13_goesOn_37 : decode cX13_goesOn 37 = .ok (.iload_n 1, 1) := by decide +kernel
theorem dX13_goesOn_38 : decode cX13_goesOn 38 = .ok (.aload_n 0, 1) := by decide +kernel
theorem dX13_goesOn_39 : decode cX13_goesOn 39 = .ok (.getfield 427, 3) := by decide +kernel
theorem dX13_goesOn_42 : decode cX13_goesOn 42 = .ok (.if_icmp .ge 42, 3) := by decide +kernel
theorem dX13_goesOn_45 : decode cX13_goesOn 45 = .ok (.aload_n 0, 1) := by decide +kernel
theorem dX13_goesOn_46 : decode cX13_goesOn 46 = .ok (.iload_n 3, 1) := by decide +kernel
theorem dX13_goesOn_47 : decode cX13_goesOn 47 = .ok (.putfield 430, 3) := by decide +kernel
theorem dX13_goesOn_50 : decode cX13_goesOn 50 = .ok (.aload_n 0, 1) := by decide +kernel
theorem dX13_goesOn_51 : decode cX13_goesOn 51 = .ok (.iload_n 1, 1) := by decide +kernel
theorem dX13_goesOn_52 : decode cX13_goesOn 52 = .ok (.putfield 427, 3) := by decide +kernel
theorem dX13_goesOn_55 : decode cX13_goesOn 55 = .ok (.iconst 0, 1) := by decide +kernel
theorem dX13_goesOn_56 : decode cX13_goesOn 56 = .ok (.istore 5, 2) := by decide +kernel
theorem dX13_goesOn_58 : decode cX13_goesOn 58 = .ok (.iload 5, 2) := by decide +kernel
theorem dX13_goesOn_60 : decode cX13_goesOn 60 = .ok (.iload_n 1, 1) := by decide +kernel
theorem dX13_goesOn_61 : decode cX13_goesOn 61 = .ok (.if_icmp .gt 23, 3) := by decide +kernel
theorem dX13_goesOn_64 : decode cX13_goesOn 64 = .ok (.aload_n 0, 1) := by decide +kernel
theorem dX13_goesOn_65 : decode cX13_goesOn 65 = .ok (.getfield 148, 3) := by decide +kernel
theorem dX13_goesOn_68 : decode cX13_goesOn 68 = .ok (.iload 5, 2) := by decide +kernel
theorem dX13_goesOn_70 : decode cX13_goesOn 70 = .ok (.aload_n 0, 1) := by decide +kernel
theorem dX13_goesOn_71 : decode cX13_goesOn 71 = .ok (.getfield 145, 3) := by decide +kernel
theorem dX13_goesOn_74 : decode cX13_goesOn 74 = .ok (.iload 5, 2) := by decide +kernel
theorem dX13_goesOn_76 : decode cX13_goesOn 76 = .ok (.iaload, 1) := by decide +kernel
theorem dX13_goesOn_77 : decode cX13_goesOn 77 = .ok (.iastore, 1) := by decide +kernel
theorem dX13_goesOn_78 : decode cX13_goesOn 78 = .ok (.iinc 5 1, 3) := by decide +kernel
theorem dX13_goesOn_81 : decode cX13_goesOn 81 = .ok (.goto (-23), 3) := by decide +kernel
theorem dX13_goesOn_84 : decode cX13_goesOn 84 = .ok (.return_, 1) := by decide +kernel
theorem dX13_goesOn_85 : decode cX13_goesOn 85 = .ok (.iconst 0, 1) := by decide +kernel
theorem dX13_goesOn_86 : decode cX13_goesOn 86 = .ok (.istore 5, 2) := by decide +kernel
theorem dX13_goesOn_88 : decode cX13_goesOn 88 = .ok (.iload 5, 2) := by decide +kernel
theorem dX13_goesOn_90 : decode cX13_goesOn 90 = .ok (.aload_n 0, 1) := by decide +kernel
theorem dX13_goesOn_91 : decode cX13_goesOn 91 = .ok (.invokevirtual 296, 3) := by decide +kernel
theorem dX13_goesOn_94 : decode cX13_goesOn 94 = .ok (.if_icmp .ge 76, 3) := by decide +kernel
theorem dX13_goesOn_97 : decode cX13_goesOn 97 = .ok (.aload_n 0, 1) := by decide +kernel
theorem dX13_goesOn_98 : decode cX13_goesOn 98 = .ok (.sipush 1260, 3) := by decide +kernel
theorem dX13_goesOn_101 : decode cX13_goesOn 101 = .ok (.iload 4, 2) := by decide +kernel
theorem dX13_goesOn_103 : decode cX13_goesOn 103 = .ok (.iload 5, 2) := by decide +kernel
theorem dX13_goesOn_105 : decode cX13_goesOn 105 = .ok (.invokevirtual 361, 3) := by decide +kernel
theorem dX13_goesOn_108 : decode cX13_goesOn 108 = .ok (.ifCond .eq 56, 3) := by decide +kernel
theorem dX13_goesOn_111 : decode cX13_goesOn 111 = .ok (.aload_n 0, 1) := by decide +kernel
theorem dX13_goesOn_112 : decode cX13_goesOn 112 = .ok (.getfield 126, 3) := by decide +kernel
theorem dX13_goesOn_115 : decode cX13_goesOn 115 = .ok (.sipush 1261, 3) := by decide +kernel
theorem dX13_goesOn_118 : decode cX13_goesOn 118 = .ok (.iload 4, 2) := by decide +kernel
theorem dX13_goesOn_120 : decode cX13_goesOn 120 = .ok (.iadd, 1) := by decide +kernel
theorem dX13_goesOn_121 : decode cX13_goesOn 121 = .ok (.iload 5, 2) := by decide +kernel
theorem dX13_goesOn_123 : decode cX13_goesOn 123 = .ok (.iastore, 1) := by decide +kernel
theorem dX13_goesOn_124 : decode cX13_goesOn 124 = .ok (.aload_n 0, 1) := by decide +kernel
theorem dX13_goesOn_125 : decode cX13_goesOn 125 = .ok (.getfield 145, 3) := by decide +kernel
theorem dX13_goesOn_128 : decode cX13_goesOn 128 = .ok (.iload_n 1, 1) := by decide +kernel
theorem dX13_goesOn_129 : decode cX13_goesOn 129 = .ok (.iconst 1, 1) := by decide +kernel
theorem dX13_goesOn_130 : decode cX13_goesOn 130 = .ok (.iadd, 1) := by decide +kernel
theorem dX13_goesOn_131 : decode cX13_goesOn 131 = .ok (.iload 5, 2) := by decide +kernel
theorem dX13_goesOn_133 : decode cX13_goesOn 133 = .ok (.iastore, 1) := by decide +kernel
theorem dX13_goesOn_134 : decode cX13_goesOn 134 = .ok (.aload_n 0, 1) := by decide +kernel
theorem dX13_goesOn_135 : decode cX13_goesOn 135 = .ok (.iload_n 1, 1) := by decide +kernel
theorem dX13_goesOn_136 : decode cX13_goesOn 136 = .ok (.iconst 1, 1) := by decide +kernel
theorem dX13_goesOn_137 : decode cX13_goesOn 137 = .ok (.iadd, 1) := by decide +kernel
theorem dX13_goesOn_138 : decode cX13_goesOn 138 = .ok (.iload_n 2, 1) := by decide +kernel
theorem dX13_goesOn_139 : decode cX13_goesOn 139 = .ok (.iload_n 3, 1) := by decide +kernel
theorem dX13_goesOn_140 : decode cX13_goesOn 140 = .ok (.aload_n 0, 1) := by decide +kernel
theorem dX13_goesOn_141 : decode cX13_goesOn 141 = .ok (.iload 4, 2) := by decide +kernel
theorem dX13_goesOn_143 : decode cX13_goesOn 143 = .ok (.iload 5, 2) := by decide +kernel
theorem dX13_goesOn_145 : decode cX13_goesOn 145 = .ok (.invokevirtual 358, 3) := by decide +kernel
theorem dX13_goesOn_148 : decode cX13_goesOn 148 = .ok (.iadd, 1) := by decide +kernel
theorem dX13_goesOn_149 : decode cX13_goesOn 149 = .ok (.invokevirtual 433, 3) := by decide +kernel
theorem dX13_goesOn_152 : decode cX13_goesOn 152 = .ok (.aload_n 0, 1) := by decide +kernel
theorem dX13_goesOn_153 : decode cX13_goesOn 153 = .ok (.getfield 126, 3) := by decide +kernel
theorem dX13_goesOn_156 : decode cX13_goesOn 156 = .ok (.sipush 1261, 3) := by decide +kernel
theorem dX13_goesOn_159 : decode cX13_goesOn 159 = .ok (.iload 4, 2) := by decide +kernel
theorem dX13_goesOn_161 : decode cX13_goesOn 161 = .ok (.iadd, 1) := by decide +kernel
theorem dX13_goesOn_162 : decode cX13_goesOn 162 = .ok (.iconst (-1), 1) := by decide +kernel
theorem dX13_goesOn_163 : decode cX13_goesOn 163 = .ok (.iastore, 1) := by decide +kernel
theorem dX13_goesOn_164 : decode cX13_goesOn 164 = .ok (.iinc 5 1, 3) := by decide +kernel
theorem dX13_goesOn_167 : decode cX13_goesOn 167 = .ok (.goto (-79), 3) := by decide +kernel
theorem dX13_goesOn_170 : decode cX13_goesOn 170 = .ok (.return_, 1) := by decide +kernel
theorem dX13_chain_0 : decode cX13_chain 0 = .ok (.aload_n 0, 1) := by decide +kernel
theorem dX13_chain_1 : decode cX13_chain 1 = .ok (.iconst 0, 1) := by decide +kernel
theorem dX13_chain_2 : decode cX13_chain 2 = .ok (.putfield 1, 3) := by decide +kernel
theorem dX13_chain_5 : decode cX13_chain 5 = .ok (.aload_n 0, 1) := by decide +kernel
theorem dX13_chain_6 : decode cX13_chain 6 = .ok (.iload_n 1, 1) := by decide +kernel
theorem dX13_chain_7 : decode cX13_chain 7 = .ok (.invokevirtual 336, 3) := by decide +kernel
theorem dX13_chain_10 : decode cX13_chain 10 = .ok (.ifCond .eq 20, 3) := by decide +kernel
theorem dX13_chain_13 : decode cX13_chain 13 = .ok (.aload_n 0, 1) := by decide +kernel
theorem dX13_chain_14 : decode cX13_chain 14 = .ok (.iload_n 2, 1) := by decide +kernel
theorem dX13_chain_15 : decode cX13_chain 15 = .ok (.invokevirtual 336, 3) := by decide +kernel
theorem dX13_chain_18 : decode cX13_chain 18 = .ok (.ifCond .eq 12, 3) := by decide +kernel
theorem dX13_chain_21 : decode cX13_chain 21 = .ok (.iload_n 1, 1) := by decide +kernel
theorem dX13_chain_22 : decode cX13_chain 22 = .ok (.iload_n 2, 1) := by decide +kernel
theorem dX13_chain_23 : decode cX13_chain 23 = .ok (.if_icmp .eq 7, 3) := by decide +kernel
theorem dX13_chain_26 : decode cX13_chain 26 = .ok (.iload_n 3, 1) := by decide +kernel
theorem dX13_chain_27 : decode cX13_chain 27 = .ok (.ifCond .ge 5, 3) := by decide +kernel
theorem dX13_chain_30 : decode cX13_chain 30 = .ok (.iconst (-1), 1) := by decide +kernel
theorem dX13_chain_31 : decode cX13_chain 31 = .ok (.ireturn, 1) := by decide +kernel
theorem dX13_chain_32 : decode cX13_chain 32 = .ok (.aload_n 0, 1) := by decide +kernel
theorem dX13_chain_33 : decode cX13_chain 33 = .ok (.sipush 1260, 3) := by decide +kernel
theorem dX13_chain_36 : decode cX13_chain 36 = .ok (.invokevirtual 286, 3) := by decide +kernel
theorem dX13_chain_39 : decode cX13_chain 39 = .ok (.aload_n 0, 1) := by decide +kernel
theorem dX13_chain_40 : decode cX13_chain 40 = .ok (.iconst (-1), 1) := by decide +kernel
theorem dX13_chain_41 : decode cX13_chain 41 = .ok (.putfield 427, 3) := by decide +kernel
theorem dX13_chain_44 : decode cX13_chain 44 = .ok (.aload_n 0, 1) := by decide +kernel
theorem dX13_chain_45 : decode cX13_chain 45 = .ok (.getfield 145, 3) := by decide +kernel
theorem dX13_chain_48 : decode cX13_chain 48 = .ok (.iconst 0, 1) := by decide +kernel
theorem dX13_chain_49 : decode cX13_chain 49 = .ok (.iload_n 1, 1) := by decide +kernel
theorem dX13_chain_50 : decode cX13_chain 50 = .ok (.iastore, 1) := by decide +kernel
theorem dX13_chain_51 : decode cX13_chain 51 = .ok (.aload_n 0, 1) := by decide +kernel
theorem dX13_chain_52 : decode cX13_chain 52 = .ok (.iconst 0, 1) := by decide +kernel
theorem dX13_chain_53 : decode cX13_chain 53 = .ok (.iload_n 2, 1) := by decide +kernel
theorem dX13_chain_54 : decode cX13_chain 54 = .ok (.iconst 0, 1) := by decide +kernel
theorem dX13_chain_55 : decode cX13_chain 55 = .ok (.invokevirtual 433, 3) := by decide +kernel
theorem dX13_chain_58 : decode cX13_chain 58 = .ok (.aload_n 0, 1) := by decide +kernel
theorem dX13_chain_59 : decode cX13_chain 59 = .ok (.getfield 427, 3) := by decide +kernel
theorem dX13_chain_62 : decode cX13_chain 62 = .ok (.ifCond .lt 13, 3) := by decide +kernel
theorem dX13_chain_65 : decode cX13_chain 65 = .ok (.iload_n 3, 1) := by decide +kernel
theorem dX13_chain_66 : decode cX13_chain 66 = .ok (.iconst 2, 1) := by decide +kernel
theorem dX13_chain_67 : decode cX13_chain 67 = .ok (.aload_n 0, 1) := by decide +kernel
theorem dX13_chain_68 : decode cX13_chain 68 = .ok (.getfield 427, 3) := by decide +kernel
theorem dX13_chain_71 : decode cX13_chain 71 = .ok (.iadd, 1) := by decide +kernel
theorem dX13_chain_72 : decode cX13_chain 72 = .ok (.if_icmp .le 5, 3) := by decide +kernel
theorem dX13_chain_75 : decode cX13_chain 75 = .ok (.iconst (-1), 1) := by decide +kernel
theorem dX13_chain_76 : decode cX13_chain 76 = .ok (.ireturn, 1) := by decide +kernel
theorem dX13_chain_77 : decode cX13_chain 77 = .ok (.iload_n 3, 1) := by decide +kernel
theorem dX13_chain_78 : decode cX13_chain 78 = .ok (.ifCond .ne 10, 3) := by decide +kernel
theorem dX13_chain_81 : decode cX13_chain 81 = .ok (.aload_n 0, 1) := by decide +kernel
theorem dX13_chain_82 : decode cX13_chain 82 = .ok (.getfield 430, 3) := by decide +kernel
theorem dX13_chain_85 : decode cX13_chain 85 = .ok (.goto 23, 3) := by decide +kernel
theorem dX13_chain_88 : decode cX13_chain 88 = .ok (.iload_n 3, 1) := by decide +kernel
theorem dX13_chain_89 : decode cX13_chain 89 = .ok (.iconst 1, 1) := by decide +kernel
theorem dX13_chain_90 : decode cX13_chain 90 = .ok (.if_icmp .ne 10, 3) := by decide +kernel
theorem dX13_chain_93 : decode cX13_chain 93 = .ok (.aload_n 0, 1) := by decide +kernel
theorem dX13_chain_94 : decode cX13_chain 94 = .ok (.getfield 427, 3) := by decide +kernel
theorem dX13_chain_97 : decode cX13_chain 97 = .ok (.goto 11, 3) := by decide +kernel
theorem dX13_chain_100 : decode cX13_chain 100 = .ok (.aload_n 0, 1) := by decide +kernel
theorem dX13_chain_101 : decode cX13_chain 101 = .ok (.getfield 148, 3) := by decide +kernel
theorem dX13_chain_104 : decode cX13_chain 104 = .ok (.iload_n 3, 1) := by decide +kernel
theorem dX13_chain_105 : decode cX13_chain 105 = .ok (.iconst 2, 1) := by decide +kernel
theorem dX13_chain_106 : decode cX13_chain 106 = .ok (.isub, 1) := by decide +kernel
theorem dX13_chain_107 : decode cX13_chain 107 = .ok (.iaload, 1) := by decide +kernel
theorem dX13_chain_108 : decode cX13_chain 108 = .ok (.ireturn, 1) := by decide +kernel
theorem dX13_peace_0 : decode cX13_peace 0 = .ok (.aload_n 0, 1) := by decide +kernel
theorem dX13_peace_1 : decode cX13_peace 1 = .ok (.iconst 0, 1) := by decide +kernel
theorem dX13_peace_2 : decode cX13_peace 2 = .ok (.putfield 1, 3) := by decide +kernel
theorem dX13_peace_5 : decode cX13_peace 5 = .ok (.iconst (-1), 1) := by decide +kernel
theorem dX13_peace_6 : decode cX13_peace 6 = .ok (.istore_n 1, 1) := by decide +kernel
theorem dX13_peace_7 : decode cX13_peace 7 = .ok (.iconst 0, 1) := by decide +kernel
theorem dX13_peace_8 : decode cX13_peace 8 = .ok (.istore_n 2, 1) := by decide +kernel
theorem dX13_peace_9 : decode cX13_peace 9 = .ok (.iload_n 2, 1) := by decide +kernel
theorem dX13_peace_10 : decode cX13_peace 10 = .ok (.iconst 1, 1) := by decide +kernel
theorem dX13_peace_11 : decode cX13_peace 11 = .ok (.aload_n 0, 1) := by decide +kernel
theorem dX13_peace_12 : decode cX13_peace 12 = .ok (.invokevirtual 296, 3) := by decide +kernel
theorem dX13_peace_15 : decode cX13_peace 15 = .ok (.ishl, 1) := by decide +kernel
theorem dX13_peace_16 : decode cX13_peace 16 = .ok (.if_icmp .ge 117, 3) := by decide +kernel
theorem dX13_peace_19 : decode cX13_peace 19 = .ok (.iconst 1, 1) := by decide +kernel
theorem dX13_peace_20 : decode cX13_peace 20 = .ok (.istore_n 3, 1) := by decide +kernel
theorem dX13_peace_21 : decode cX13_peace 21 = .ok (.aload_n 0, 1) := by decide +kernel
theorem dX13_peace_22 : decode cX13_peace 22 = .ok (.iconst 0, 1) := by decide +kernel
theorem dX13_peace_23 : decode cX13_peace 23 = .ok (.sipush 1260, 3) := by decide +kernel
theorem dX13_peace_26 : decode cX13_peace 26 = .ok (.bipush 19, 2) := by decide +kernel
theorem dX13_peace_28 : decode cX13_peace 28 = .ok (.invokevirtual 292, 3) := by decide +kernel
theorem dX13_peace_31 : decode cX13_peace 31 = .ok (.iconst 0, 1) := by decide +kernel
theorem dX13_peace_32 : decode cX13_peace 32 = .ok (.istore 4, 2) := by decide +kernel
theorem dX13_peace_34 : decode cX13_peace 34 = .ok (.iload 4, 2) := by decide +kernel
theorem dX13_peace_36 : decode cX13_peace 36 = .ok (.aload_n 0, 1) := by decide +kernel
theorem dX13_peace_37 : decode cX13_peace 37 = .ok (.invokevirtual 296, 3) := by decide +kernel
theorem dX13_peace_40 : decode cX13_peace 40 = .ok (.if_icmp .ge 51, 3) := by decide +kernel
theorem dX13_peace_43 : decode cX13_peace 43 = .ok (.iload_n 2, 1) := by decide +kernel
theorem dX13_peace_44 : decode cX13_peace 44 = .ok (.iload 4, 2) := by decide +kernel
theorem dX13_peace_46 : decode cX13_peace 46 = .ok (.ishr, 1) := by decide +kernel
theorem dX13_peace_47 : decode cX13_peace 47 = .ok (.iconst 1, 1) := by decide +kernel
theorem dX13_peace_48 : decode cX13_peace 48 = .ok (.iand, 1) := by decide +kernel
theorem dX13_peace_49 : decode cX13_peace 49 = .ok (.iconst 1, 1) := by decide +kernel
theorem dX13_peace_50 : decode cX13_peace 50 = .ok (.if_icmp .ne 35, 3) := by decide +kernel
theorem dX13_peace_53 : decode cX13_peace 53 = .ok (.iload_n 3, 1) := by decide +kernel
theorem dX13_peace_54 : decode cX13_peace 54 = .ok (.ifCond .eq 17, 3) := by decide +kernel
theorem dX13_peace_57 : decode cX13_peace 57 = .ok (.aload_n 0, 1) := by decide +kernel
theorem dX13_peace_58 : decode cX13_peace 58 = .ok (.iconst 0, 1) := by decide +kernel
theorem dX13_peace_59 : decode cX13_peace 59 = .ok (.iload 4, 2) := by decide +kernel
theorem dX13_peace_61 : decode cX13_peace 61 = .ok (.invokevirtual 303, 3) := by decide +kernel
theorem dX13_peace_64 : decode cX13_peace 64 = .ok (.ifCond .lt 7, 3) := by decide +kernel
theorem dX13_peace_67 : decode cX13_peace 67 = .ok (.iconst 1, 1) := by decide +kernel
theorem dX13_peace_68 : decode cX13_peace 68 = .ok (.goto 4, 3) := by decide +kernel
theorem dX13_peace_71 : decode cX13_peace 71 = .ok (.iconst 0, 1) := by decide +kernel
theorem dX13_peace_72 : decode cX13_peace 72 = .ok (.istore_n 3, 1) := by decide +kernel
theorem dX13_peace_73 : decode cX13_peace 73 = .ok (.aload_n 0, 1) := by decide +kernel
theorem dX13_peace_74 : decode cX13_peace 74 = .ok (.getfield 126, 3) := by decide +kernel
theorem dX13_peace_77 : decode cX13_peace 77 = .ok (.sipush 1261, 3) := by decide +kernel
theorem dX13_peace_80 : decode cX13_peace 80 = .ok (.iload 4, 2) := by decide +kernel
theorem dX13_peace_82 : decode cX13_peace 82 = .ok (.iadd, 1) := by decide +kernel
theorem dX13_peace_83 : decode cX13_peace 83 = .ok (.iconst (-1), 1) := by decide +kernel
theorem dX13_peace_84 : decode cX13_peace 84 = .ok (.iastore, 1) := by decide +kernel
theorem dX13_peace_85 : decode cX13_peace 85 = .ok (.iinc 4 1, 3) := by decide +kernel
theorem dX13_peace_88 : decode cX13_peace 88 = .ok (.goto (-54), 3) := by decide +kernel
theorem dX13_peace_91 : decode cX13_peace 91 = .ok (.iload_n 3, 1) := by decide +kernel
theorem dX13_peace_92 : decode cX13_peace 92 = .ok (.ifCond .eq 35, 3) := by decide +kernel
theorem dX13_peace_95 : decode cX13_peace 95 = .ok (.iload_n 1, 1) := by decide +kernel
theorem dX13_peace_96 : decode cX13_peace 96 = .ok (.ifCond .lt 14, 3) := by decide +kernel
theorem dX13_peace_99 : decode cX13_peace 99 = .ok (.iload_n 2, 1) := by decide +kernel
theorem dX13_peace_100 : decode cX13_peace 100 = .ok (.invokestatic 394, 3) := by decide +kernel
theorem dX13_peace_103 : decode cX13_peace 103 = .ok (.iload_n 1, 1) := by decide +kernel
theorem dX13_peace_104 : decode cX13_peace 104 = .ok (.invokestatic 394, 3) := by decide +kernel
theorem dX13_peace_107 : decode cX13_peace 107 = .ok (.if_icmp .ge 20, 3) := by decide +kernel
theorem dX13_peace_110 : decode cX13_peace 110 = .ok (.aload_n 0, 1) := by decide +kernel
theorem dX13_peace_111 : decode cX13_peace 111 = .ok (.sipush 1260, 3) := by decide +kernel
theorem dX13_peace_114 : decode cX13_peace 114 = .ok (.aload_n 0, 1) := by decide +kernel
theorem dX13_peace_115 : decode cX13_peace 115 = .ok (.iconst 0, 1) := by decide +kernel
theorem dX13_peace_116 : decode cX13_peace 116 = .ok (.invokevirtual 349, 3) := by decide +kernel
theorem dX13_peace_119 : decode cX13_peace 119 = .ok (.invokevirtual 385, 3) := by decide +kernel
theorem dX13_peace_122 : decode cX13_peace 122 = .ok (.ifCond .eq 5, 3) := by decide +kernel
theorem dX13_peace_125 : decode cX13_peace 125 = .ok (.iload_n 2, 1) := by decide +kernel
theorem dX13_peace_126 : decode cX13_peace 126 = .ok (.istore_n 1, 1) := by decide +kernel
theorem dX13_peace_127 : decode cX13_peace 127 = .ok (.iinc 2 1, 3) := by decide +kernel
theorem dX13_peace_130 : decode cX13_peace 130 = .ok (.goto (-121), 3) := by decide +kernel
theorem dX13_peace_133 : decode cX13_peace 133 = .ok (.iload_n 1, 1) := by decide +kernel
theorem dX13_peace_134 : decode cX13_peace 134 = .ok (.ireturn, 1) := by decide +kernel
theorem dX13_cathedral_0 : decode cX13_cathedral 0 = .ok (.aload_n 0, 1) := by decide +kernel
theorem dX13_cathedral_1 : decode cX13_cathedral 1 = .ok (.iconst 0, 1) := by decide +kernel
theorem dX13_cathedral_2 : decode cX13_cathedral 2 = .ok (.putfield 1, 3) := by decide +kernel
theorem dX13_cathedral_5 : decode cX13_cathedral 5 = .ok (.iconst (-1), 1) := by decide +kernel
theorem dX13_cathedral_6 : decode cX13_cathedral 6 = .ok (.istore_n 2, 1) := by decide +kernel
theorem dX13_cathedral_7 : decode cX13_cathedral 7 = .ok (.iconst 0, 1) := by decide +kernel
theorem dX13_cathedral_8 : decode cX13_cathedral 8 = .ok (.istore_n 3, 1) := by decide +kernel
theorem dX13_cathedral_9 : decode cX13_cathedral 9 = .ok (.iconst 0, 1) := by decide +kernel
theorem dX13_cathedral_10 : decode cX13_cathedral 10 = .ok (.istore 4, 2) := by decide +kernel
theorem dX13_cathedral_12 : decode cX13_cathedral 12 = .ok (.iload 4, 2) := by decide +kernel
theorem dX13_cathedral_14 : decode cX13_cathedral 14 = .ok (.aload_n 0, 1) := by decide +kernel
theorem dX13_cathedral_15 : decode cX13_cathedral 15 = .ok (.invokevirtual 296, 3) := by decide +kernel
theorem dX13_cathedral_18 : decode cX13_cathedral 18 = .ok (.if_icmp .ge 73, 3) := by decide +kernel
theorem dX13_cathedral_21 : decode cX13_cathedral 21 = .ok (.iload_n 1, 1) := by decide +kernel
theorem dX13_cathedral_22 : decode cX13_cathedral 22 = .ok (.iconst 0, 1) := by decide +kernel
theorem dX13_cathedral_23 : decode cX13_cathedral 23 = .ok (.iconst 3, 1) := by decide +kernel
theorem dX13_cathedral_24 : decode cX13_cathedral 24 = .ok (.invokestatic 339, 3) := by decide +kernel
theorem dX13_cathedral_27 : decode cX13_cathedral 27 = .ok (.ifCond .eq 64, 3) := by decide +kernel
theorem dX13_cathedral_30 : decode cX13_cathedral 30 = .ok (.aload_n 0, 1) := by decide +kernel
theorem dX13_cathedral_31 : decode cX13_cathedral 31 = .ok (.iconst 0, 1) := by decide +kernel
theorem dX13_cathedral_32 : decode cX13_cathedral 32 = .ok (.iload 4, 2) := by decide +kernel
theorem dX13_cathedral_34 : decode cX13_cathedral 34 = .ok (.invokevirtual 303, 3) := by decide +kernel
theorem dX13_cathedral_37 : decode cX13_cathedral 37 = .ok (.istore 5, 2) := by decide +kernel
theorem dX13_cathedral_39 : decode cX13_cathedral 39 = .ok (.iload 5, 2) := by decide +kernel
theorem dX13_cathedral_41 : decode cX13_cathedral 41 = .ok (.ifCond .ge 7, 3) := by decide +kernel
theorem dX13_cathedral_44 : decode cX13_cathedral 44 = .ok (.iconst 0, 1) := by decide +kernel
theorem dX13_cathedral_45 : decode cX13_cathedral 45 = .ok (.goto 17, 3) := by decide +kernel
theorem dX13_cathedral_48 : decode cX13_cathedral 48 = .ok (.aload_n 0, 1) := by decide +kernel
theorem dX13_cathedral_49 : decode cX13_cathedral 49 = .ok (.iconst 0, 1) := by decide +kernel
theorem dX13_cathedral_50 : decode cX13_cathedral 50 = .ok (.iload 5, 2) := by decide +kernel
theorem dX13_cathedral_52 : decode cX13_cathedral 52 = .ok (.aload_n 0, 1) := by decide +kernel
theorem dX13_cathedral_53 : decode cX13_cathedral 53 = .ok (.iload 4, 2) := by decide +kernel
theorem dX13_cathedral_55 : decode cX13_cathedral 55 = .ok (.invokevirtual 313, 3) := by decide +kernel
theorem dX13_cathedral_58 : decode cX13_cathedral 58 = .ok (.iload_n 1, 1) := by decide +kernel
theorem dX13_cathedral_59 : decode cX13_cathedral 59 = .ok (.invokevirtual 325, 3) := by decide +kernel
theorem dX13_cathedral_62 : decode cX13_cathedral 62 = .ok (.istore 6, 2) := by decide +kernel
theorem dX13_cathedral_64 : decode cX13_cathedral 64 = .ok (.iload 5, 2) := by decide +kernel
theorem dX13_cathedral_66 : decode cX13_cathedral 66 = .ok (.ifCond .lt 19, 3) := by decide +kernel
theorem dX13_cathedral_69 : decode cX13_cathedral 69 = .ok (.iload_n 2, 1) := by decide +kernel
theorem dX13_cathedral_70 : decode cX13_cathedral 70 = .ok (.ifCond .lt 9, 3) := by decide +kernel
theorem dX13_cathedral_73 : decode cX13_cathedral 73 = .ok (.iload 6, 2) := by decide +kernel
theorem dX13_cathedral_75 : decode cX13_cathedral 75 = .ok (.iload_n 3, 1) := by decide +kernel
theorem dX13_cathedral_76 : decode cX13_cathedral 76 = .ok (.if_icmp .le 9, 3) := by decide +kernel
theorem dX13_cathedral_79 : decode cX13_cathedral 79 = .ok (.iload 4, 2) := by decide +kernel
theorem dX13_cathedral_81 : decode cX13_cathedral 81 = .ok (.istore_n 2, 1) := by decide +kernel
theorem dX13_cathedral_82 : decode cX13_cathedral 82 = .ok (.iload 6, 2) := by decide +kernel
theorem dX13_cathedral_84 : decode cX13_cathedral 84 = .ok (.istore_n 3, 1) := by decide +kernel
theorem dX13_cathedral_85 : decode cX13_cathedral 85 = .ok (.iinc 4 1, 3) := by decide +kernel
theorem dX13_cathedral_88 : decode cX13_cathedral 88 = .ok (.goto (-76), 3) := by decide +kernel
theorem dX13_cathedral_91 : decode cX13_cathedral 91 = .ok (.iload_n 2, 1) := by decide +kernel
theorem dX13_cathedral_92 : decode cX13_cathedral 92 = .ok (.ireturn, 1) := by decide +kernel
theorem dX13_eddies_0 : decode cX13_eddies 0 = .ok (.aload_n 0, 1) := by decide +kernel
theorem dX13_eddies_1 : decode cX13_eddies 1 = .ok (.iconst 0, 1) := by decide +kernel
theorem dX13_eddies_2 : decode cX13_eddies 2 = .ok (.putfield 1, 3) := by decide +kernel
theorem dX13_eddies_5 : decode cX13_eddies 5 = .ok (.iconst 0, 1) := by decide +kernel
theorem dX13_eddies_6 : decode cX13_eddies 6 = .ok (.istore_n 1, 1) := by decide +kernel
theorem dX13_eddies_7 : decode cX13_eddies 7 = .ok (.iconst 0, 1) := by decide +kernel
theorem dX13_eddies_8 : decode cX13_eddies 8 = .ok (.istore_n 2, 1) := by decide +kernel
theorem dX13_eddies_9 : decode cX13_eddies 9 = .ok (.iload_n 2, 1) := by decide +kernel
theorem dX13_eddies_10 : decode cX13_eddies 10 = .ok (.aload_n 0, 1) := by decide +kernel
theorem dX13_eddies_11 : decode cX13_eddies 11 = .ok (.invokevirtual 296, 3) := by decide +kernel
theorem dX13_eddies_14 : decode cX13_eddies 14 = .ok (.if_icmp .ge 67, 3) := by decide +kernel
theorem dX13_eddies_17 : decode cX13_eddies 17 = .ok (.iconst 0, 1) := by decide +kernel
theorem dX13_eddies_18 : decode cX13_eddies 18 = .ok (.istore_n 3, 1) := by decide +kernel
theorem dX13_eddies_19 : decode cX13_eddies 19 = .ok (.iload_n 3, 1) := by decide +kernel
theorem dX13_eddies_20 : decode cX13_eddies 20 = .ok (.iload_n 2, 1) := by decide +kernel
theorem dX13_eddies_21 : decode cX13_eddies 21 = .ok (.if_icmp .ge 54, 3) := by decide +kernel
theorem dX13_eddies_24 : decode cX13_eddies 24 = .ok (.iload_n 1, 1) := by decide +kernel
theorem dX13_eddies_25 : decode cX13_eddies 25 = .ok (.aload_n 0, 1) := by decide +kernel
theorem dX13_eddies_26 : decode cX13_eddies 26 = .ok (.iconst 0, 1) := by decide +kernel
theorem dX13_eddies_27 : decode cX13_eddies 27 = .ok (.iload_n 2, 1) := by decide +kernel
theorem dX13_eddies_28 : decode cX13_eddies 28 = .ok (.invokevirtual 303, 3) := by decide +kernel
theorem dX13_eddies_31 : decode cX13_eddies 31 = .ok (.ifCond .lt 35, 3) := by decide +kernel
theorem dX13_eddies_34 : decode cX13_eddies 34 = .ok (.aload_n 0, 1) := by decide +kernel
theorem dX13_eddies_35 : decode cX13_eddies 35 = .ok (.iconst 0, 1) := by decide +kernel
theorem dX13_eddies_36 : decode cX13_eddies 36 = .ok (.iload_n 2, 1) := by decide +kernel
theorem dX13_eddies_37 : decode cX13_eddies 37 = .ok (.invokevirtual 303, 3) := by decide +kernel
theorem dX13_eddies_40 : decode cX13_eddies 40 = .ok (.aload_n 0, 1) := by decide +kernel
theorem dX13_eddies_41 : decode cX13_eddies 41 = .ok (.iconst 0, 1) := by decide +kernel
theorem dX13_eddies_42 : decode cX13_eddies 42 = .ok (.iload_n 3, 1) := by decide +kernel
theorem dX13_eddies_43 : decode cX13_eddies 43 = .ok (.invokevirtual 303, 3) := by decide +kernel
theorem dX13_eddies_46 : decode cX13_eddies 46 = .ok (.if_icmp .ne 20, 3) := by decide +kernel
theorem dX13_eddies_49 : decode cX13_eddies 49 = .ok (.aload_n 0, 1) := by decide +kernel
theorem dX13_eddies_50 : decode cX13_eddies 50 = .ok (.iload_n 2, 1) := by decide +kernel
theorem dX13_eddies_51 : decode cX13_eddies 51 = .ok (.invokevirtual 313, 3) := by decide +kernel
theorem dX13_eddies_54 : decode cX13_eddies 54 = .ok (.aload_n 0, 1) := by decide +kernel
theorem dX13_eddies_55 : decode cX13_eddies 55 = .ok (.iload_n 3, 1) := by decide +kernel
theorem dX13_eddies_56 : decode cX13_eddies 56 = .ok (.invokevirtual 313, 3) := by decide +kernel
theorem dX13_eddies_59 : decode cX13_eddies 59 = .ok (.if_icmp .ne 7, 3) := by decide +kernel
theorem dX13_eddies_62 : decode cX13_eddies 62 = .ok (.iconst 1, 1) := by decide +kernel
theorem dX13_eddies_63 : decode cX13_eddies 63 = .ok (.goto 4, 3) := by decide +kernel
theorem dX13_eddies_66 : decode cX13_eddies 66 = .ok (.iconst 0, 1) := by decide +kernel
theorem dX13_eddies_67 : decode cX13_eddies 67 = .ok (.iadd, 1) := by decide +kernel
theorem dX13_eddies_68 : decode cX13_eddies 68 = .ok (.istore_n 1, 1) := by decide +kernel
theorem dX13_eddies_69 : decode cX13_eddies 69 = .ok (.iinc 3 1, 3) := by decide +kernel
theorem dX13_eddies_72 : decode cX13_eddies 72 = .ok (.goto (-53), 3) := by decide +kernel
theorem dX13_eddies_75 : decode cX13_eddies 75 = .ok (.iinc 2 1, 3) := by decide +kernel
theorem dX13_eddies_78 : decode cX13_eddies 78 = .ok (.goto (-69), 3) := by decide +kernel
theorem dX13_eddies_81 : decode cX13_eddies 81 = .ok (.iload_n 1, 1) := by decide +kernel
theorem dX13_eddies_82 : decode cX13_eddies 82 = .ok (.ireturn, 1) := by decide +kernel
theorem dX13_findShares_0 : decode cX13_findShares 0 = .ok (.iload_n 1, 1) := by decide +kernel
theorem dX13_findShares_1 : decode cX13_findShares 1 = .ok (.istore_n 3, 1) := by decide +kernel
theorem dX13_findShares_2 : decode cX13_findShares 2 = .ok (.iconst 0, 1) := by decide +kernel
theorem dX13_findShares_3 : decode cX13_findShares 3 = .ok (.istore 4, 2) := by decide +kernel
theorem dX13_findShares_5 : decode cX13_findShares 5 = .ok (.iload 4, 2) := by decide +kernel
theorem dX13_findShares_7 : decode cX13_findShares 7 = .ok (.aload_n 0, 1) := by decide +kernel
theorem dX13_findShares_8 : decode cX13_findShares 8 = .ok (.getfield 126, 3) := by decide +kernel
theorem dX13_findShares_11 : decode cX13_findShares 11 = .ok (.bipush 19, 2) := by decide +kernel
theorem dX13_findShares_13 : decode cX13_findShares 13 = .ok (.iaload, 1) := by decide +kernel
theorem dX13_findShares_14 : decode cX13_findShares 14 = .ok (.if_icmp .ge 77, 3) := by decide +kernel
theorem dX13_findShares_17 : decode cX13_findShares 17 = .ok (.aload_n 0, 1) := by decide +kernel
theorem dX13_findShares_18 : decode cX13_findShares 18 = .ok (.getfield 151, 3) := by decide +kernel
theorem dX13_findShares_21 : decode cX13_findShares 21 = .ok (.iload 4, 2) := by decide +kernel
theorem dX13_findShares_23 : decode cX13_findShares 23 = .ok (.iload_n 2, 1) := by decide +kernel
theorem dX13_findShares_24 : decode cX13_findShares 24 = .ok (.ifCond .ne 7, 3) := by decide +kernel
theorem dX13_findShares_27 : decode cX13_findShares 27 = .ok (.iconst 0, 1) := by decide +kernel
theorem dX13_findShares_28 : decode cX13_findShares 28 = .ok (.goto 17, 3) := by decide +kernel
theorem dX13_findShares_31 : decode cX13_findShares 31 = .ok (.iload_n 1, 1) := by decide +kernel
theorem dX13_findShares_32 : decode cX13_findShares 32 = .ok (.aload_n 0, 1) := by decide +kernel
theorem dX13_findShares_33 : decode cX13_findShares 33 = .ok (.getfield 126, 3) := by decide +kernel
theorem dX13_findShares_36 : decode cX13_findShares 36 = .ok (.bipush 20, 2) := by decide +kernel
theorem dX13_findShares_38 : decode cX13_findShares 38 = .ok (.iload 4, 2) := by decide +kernel
theorem dX13_findShares_40 : decode cX13_findShares 40 = .ok (.iadd, 1) := by decide +kernel
theorem dX13_findShares_41 : decode cX13_findShares 41 = .ok (.iaload, 1) := by decide +kernel
theorem dX13_findShares_42 : decode cX13_findShares 42 = .ok (.imul, 1) := by decide +kernel
theorem dX13_findShares_43 : decode cX13_findShares 43 = .ok (.iload_n 2, 1) := by decide +kernel
theorem dX13_findShares_44 : decode cX13_findShares 44 = .ok (.idiv, 1) := by decide +kernel
theorem dX13_findShares_45 : decode cX13_findShares 45 = .ok (.iastore, 1) := by decide +kernel
theorem dX13_findShares_46 : decode cX13_findShares 46 = .ok (.aload_n 0, 1) := by decide +kernel
theorem dX13_findShares_47 : decode cX13_findShares 47 = .ok (.getfield 154, 3) := by decide +kernel
theorem dX13_findShares_50 : decode cX13_findShares 50 = .ok (.iload 4, 2) := by decide +kernel
theorem dX13_findShares_52 : decode cX13_findShares 52 = .ok (.iload_n 2, 1) := by decide +kernel
theorem dX13_findShares_53 : decode cX13_findShares 53 = .ok (.ifCond .ne 7, 3) := by decide +kernel
theorem dX13_findShares_56 : decode cX13_findShares 56 = .ok (.iconst 0, 1) := by decide +kernel
theorem dX13_findShares_57 : decode cX13_findShares 57 = .ok (.goto 17, 3) := by decide +kernel
theorem dX13_findShares_60 : decode cX13_findShares 60 = .ok (.iload_n 1, 1) := by decide +kernel
theorem dX13_findShares_61 : decode cX13_findShares 61 = .ok (.aload_n 0, 1) := by decide +kernel
theorem dX13_findShares_62 : decode cX13_findShares 62 = .ok (.getfield 126, 3) := by decide +kernel
theorem dX13_findShares_65 : decode cX13_findShares 65 = .ok (.bipush 20, 2) := by decide +kernel
theorem dX13_findShares_67 : decode cX13_findShares 67 = .ok (.iload 4, 2) := by decide +kernel
theorem dX13_findShares_69 : decode cX13_findShares 69 = .ok (.iadd, 1) := by decide +kernel
theorem dX13_findShares_70 : decode cX13_findShares 70 = .ok (.iaload, 1) := by decide +kernel
theorem dX13_findShares_71 : decode cX13_findShares 71 = .ok (.imul, 1) := by decide +kernel
theorem dX13_findShares_72 : decode cX13_findShares 72 = .ok (.iload_n 2, 1) := by decide +kernel
theorem dX13_findShares_73 : decode cX13_findShares 73 = .ok (.irem, 1) := by decide +kernel
theorem dX13_findShares_74 : decode cX13_findShares 74 = .ok (.iastore, 1) := by decide +kernel
theorem dX13_findShares_75 : decode cX13_findShares 75 = .ok (.iload_n 3, 1) := by decide +kernel
theorem dX13_findShares_76 : decode cX13_findShares 76 = .ok (.aload_n 0, 1) := by decide +kernel
theorem dX13_findShares_77 : decode cX13_findShares 77 = .ok (.getfield 151, 3) := by decide +kernel
theorem dX13_findShares_80 : decode cX13_findShares 80 = .ok (.iload 4, 2) := by decide +kernel
theorem dX13_findShares_82 : decode cX13_findShares 82 = .ok (.iaload, 1) := by decide +kernel
theorem dX13_findShares_83 : decode cX13_findShares 83 = .ok (.isub, 1) := by decide +kernel
theorem dX13_findShares_84 : decode cX13_findShares 84 = .ok (.istore_n 3, 1) := by decide +kernel
theorem dX13_findShares_85 : decode cX13_findShares 85 = .ok (.iinc 4 1, 3) := by decide +kernel
theorem dX13_findShares_88 : decode cX13_findShares 88 = .ok (.goto (-83), 3) := by decide +kernel
theorem dX13_findShares_91 : decode cX13_findShares 91 = .ok (.iconst 0, 1) := by decide +kernel
theorem dX13_findShares_92 : decode cX13_findShares 92 = .ok (.istore 4, 2) := by decide +kernel
theorem dX13_findShares_94 : decode cX13_findShares 94 = .ok (.iload 4, 2) := by decide +kernel
theorem dX13_findShares_96 : decode cX13_findShares 96 = .ok (.iload_n 3, 1) := by decide +kernel
theorem dX13_findShares_97 : decode cX13_findShares 97 = .ok (.if_icmp .ge 82, 3) := by decide +kernel
theorem dX13_findShares_100 : decode cX13_findShares 100 = .ok (.iload_n 2, 1) := by decide +kernel
theorem dX13_findShares_101 : decode cX13_findShares 101 = .ok (.ifCond .le 78, 3) := by decide +kernel
theorem dX13_findShares_104 : decode cX13_findShares 104 = .ok (.iconst 0, 1) := by decide +kernel
theorem dX13_findShares_105 : decode cX13_findShares 105 = .ok (.istore 5, 2) := by decide +kernel
theorem dX13_findShares_107 : decode cX13_findShares 107 = .ok (.iconst 1, 1) := by decide +kernel
theorem dX13_findShares_108 : decode cX13_findShares 108 = .ok (.istore 6, 2) := by decide +kernel
theorem dX13_findShares_110 : decode cX13_findShares 110 = .ok (.iload 6, 2) := by decide +kernel
theorem dX13_findShares_112 : decode cX13_findShares 112 = .ok (.aload_n 0, 1) := by decide +kernel
theorem dX13_findShares_113 : decode cX13_findShares 113 = .ok (.getfield 126, 3) := by decide +kernel
theorem dX13_findShares_116 : decode cX13_findShares 116 = .ok (.bipush 19, 2) := by decide +kernel
theorem dX13_findShares_118 : decode cX13_findShares 118 = .ok (.iaload, 1) := by decide +kernel
theorem dX13_findShares_119 : decode cX13_findShares 119 = .ok (.if_icmp .ge 35, 3) := by decide +kernel
theorem dX13_findShares_122 : decode cX13_findShares 122 = .ok (.aload_n 0, 1) := by decide +kernel
theorem dX13_findShares_123 : decode cX13_findShares 123 = .ok (.getfield 154, 3) := by decide +kernel
theorem dX13_findShares_126 : decode cX13_findShares 126 = .ok (.iload 6, 2) := by decide +kernel
theorem dX13_findShares_128 : decode cX13_findShares 128 = .ok (.iaload, 1) := by decide +kernel
theorem dX13_findShares_129 : decode cX13_findShares 129 = .ok (.aload_n 0, 1) := by decide +kernel
theorem dX13_findShares_130 : decode cX13_findShares 130 = .ok (.getfield 154, 3) := by decide +kernel
theorem dX13_findShares_133 : decode cX13_findShares 133 = .ok (.iload 5, 2) := by decide +kernel
theorem dX13_findShares_135 : decode cX13_findShares 135 = .ok (.iaload, 1) := by decide +kernel
theorem dX13_findShares_136 : decode cX13_findShares 136 = .ok (.if_icmp .le 8, 3) := by decide +kernel
theorem dX13_findShares_139 : decode cX13_findShares 139 = .ok (.iload 6, 2) := by decide +kernel
