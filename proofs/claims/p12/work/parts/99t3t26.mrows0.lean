theorem dX13_feed_0 : decode cX13_feed 0 = .ok (.aload_n 0, 1) := by decide +kernel
theorem dX13_feed_1 : decode cX13_feed 1 = .ok (.iconst 0, 1) := by decide +kernel
theorem dX13_feed_2 : decode cX13_feed 2 = .ok (.putfield 1, 3) := by decide +kernel
theorem dX13_feed_5 : decode cX13_feed 5 = .ok (.aload_n 0, 1) := by decide +kernel
theorem dX13_feed_6 : decode cX13_feed 6 = .ok (.lload_n 1, 1) := by decide +kernel
theorem dX13_feed_7 : decode cX13_feed 7 = .ok (.invokevirtual 7, 3) := by decide +kernel
theorem dX13_feed_10 : decode cX13_feed 10 = .ok (.aload_n 0, 1) := by decide +kernel
theorem dX13_feed_11 : decode cX13_feed 11 = .ok (.lload_n 3, 1) := by decide +kernel
theorem dX13_feed_12 : decode cX13_feed 12 = .ok (.invokevirtual 7, 3) := by decide +kernel
theorem dX13_feed_15 : decode cX13_feed 15 = .ok (.aload_n 0, 1) := by decide +kernel
theorem dX13_feed_16 : decode cX13_feed 16 = .ok (.lload 5, 2) := by decide +kernel
theorem dX13_feed_18 : decode cX13_feed 18 = .ok (.invokevirtual 7, 3) := by decide +kernel
theorem dX13_feed_21 : decode cX13_feed 21 = .ok (.aload_n 0, 1) := by decide +kernel
theorem dX13_feed_22 : decode cX13_feed 22 = .ok (.getfield 11, 3) := by decide +kernel
theorem dX13_feed_25 : decode cX13_feed 25 = .ok (.ireturn, 1) := by decide +kernel
theorem dX13_lay_0 : decode cX13_lay 0 = .ok (.bipush 56, 2) := by decide +kernel
theorem dX13_lay_2 : decode cX13_lay 2 = .ok (.istore_n 3, 1) := by decide +kernel
theorem dX13_lay_3 : decode cX13_lay 3 = .ok (.iload_n 3, 1) := by decide +kernel
theorem dX13_lay_4 : decode cX13_lay 4 = .ok (.ifCond .lt 71, 3) := by decide +kernel
theorem dX13_lay_7 : decode cX13_lay 7 = .ok (.lload_n 1, 1) := by decide +kernel
theorem dX13_lay_8 : decode cX13_lay 8 = .ok (.iload_n 3, 1) := by decide +kernel
theorem dX13_lay_9 : decode cX13_lay 9 = .ok (.lshr, 1) := by decide +kernel
theorem dX13_lay_10 : decode cX13_lay 10 = .ok (.l2i, 1) := by decide +kernel
theorem dX13_lay_11 : decode cX13_lay 11 = .ok (.sipush 255, 3) := by decide +kernel
theorem dX13_lay_14 : decode cX13_lay 14 = .ok (.iand, 1) := by decide +kernel
theorem dX13_lay_15 : decode cX13_lay 15 = .ok (.istore 4, 2) := by decide +kernel
theorem dX13_lay_17 : decode cX13_lay 17 = .ok (.iload 4, 2) := by decide +kernel
theorem dX13_lay_19 : decode cX13_lay 19 = .ok (.bipush 10, 2) := by decide +kernel
theorem dX13_lay_21 : decode cX13_lay 21 = .ok (.if_icmp .eq 17, 3) := by decide +kernel
theorem dX13_lay_24 : decode cX13_lay 24 = .ok (.iload 4, 2) := by decide +kernel
theorem dX13_lay_26 : decode cX13_lay 26 = .ok (.bipush 32, 2) := by decide +kernel
theorem dX13_lay_28 : decode cX13_lay 28 = .ok (.if_icmp .lt 41, 3) := by decide +kernel
theorem dX13_lay_31 : decode cX13_lay 31 = .ok (.iload 4, 2) := by decide +kernel
theorem dX13_lay_33 : decode cX13_lay 33 = .ok (.bipush 126, 2) := by decide +kernel
theorem dX13_lay_35 : decode cX13_lay 35 = .ok (.if_icmp .gt 34, 3) := by decide +kernel
theorem dX13_lay_38 : decode cX13_lay 38 = .ok (.aload_n 0, 1) := by decide +kernel
theorem dX13_lay_39 : decode cX13_lay 39 = .ok (.getfield 11, 3) := by decide +kernel
theorem dX13_lay_42 : decode cX13_lay 42 = .ok (.sipush 1000, 3) := by decide +kernel
theorem dX13_lay_45 : decode cX13_lay 45 = .ok (.if_icmp .ge 24, 3) := by decide +kernel
theorem dX13_lay_48 : decode cX13_lay 48 = .ok (.aload_n 0, 1) := by decide +kernel
theorem dX13_lay_49 : decode cX13_lay 49 = .ok (.getfield 14, 3) := by decide +kernel
theorem dX13_lay_52 : decode cX13_lay 52 = .ok (.aload_n 0, 1) := by decide +kernel
theorem dX13_lay_53 : decode cX13_lay 53 = .ok (.getfield 11, 3) := by decide +kernel
theorem dX13_lay_56 : decode cX13_lay 56 = .ok (.iload 4, 2) := by decide +kernel
theorem dX13_lay_58 : decode cX13_lay 58 = .ok (.iastore, 1) := by decide +kernel
theorem dX13_lay_59 : decode cX13_lay 59 = .ok (.aload_n 0, 1) := by decide +kernel
theorem dX13_lay_60 : decode cX13_lay 60 = .ok (.dup, 1) := by decide +kernel
theorem dX13_lay_61 : decode cX13_lay 61 = .ok (.getfield 11, 3) := by decide +kernel
theorem dX13_lay_64 : decode cX13_lay 64 = .ok (.iconst 1, 1) := by decide +kernel
theorem dX13_lay_65 : decode cX13_lay 65 = .ok (.iadd, 1) := by decide +kernel
theorem dX13_lay_66 : decode cX13_lay 66 = .ok (.putfield 11, 3) := by decide +kernel
theorem dX13_lay_69 : decode cX13_lay 69 = .ok (.iinc 3 (-8), 3) := by decide +kernel
theorem dX13_lay_72 : decode cX13_lay 72 = .ok (.goto (-69), 3) := by decide +kernel
theorem dX13_lay_75 : decode cX13_lay 75 = .ok (.return_, 1) := by decide +kernel
theorem dX13_init_0 : decode cX13_init 0 = .ok (.aload_n 0, 1) := by decide +kernel
theorem dX13_init_1 : decode cX13_init 1 = .ok (.invokespecial 18, 3) := by decide +kernel
theorem dX13_init_4 : decode cX13_init 4 = .ok (.aload_n 0, 1) := by decide +kernel
theorem dX13_init_5 : decode cX13_init 5 = .ok (.sipush 1000, 3) := by decide +kernel
theorem dX13_init_8 : decode cX13_init 8 = .ok (.newarray .int, 2) := by decide +kernel
theorem dX13_init_10 : decode cX13_init 10 = .ok (.putfield 14, 3) := by decide +kernel
theorem dX13_init_13 : decode cX13_init 13 = .ok (.aload_n 0, 1) := by decide +kernel
theorem dX13_init_14 : decode cX13_init 14 = .ok (.sipush 1002, 3) := by decide +kernel
theorem dX13_init_17 : decode cX13_init 17 = .ok (.newarray .int, 2) := by decide +kernel
theorem dX13_init_19 : decode cX13_init 19 = .ok (.putfield 24, 3) := by decide +kernel
theorem dX13_init_22 : decode cX13_init 22 = .ok (.aload_n 0, 1) := by decide +kernel
theorem dX13_init_23 : decode cX13_init 23 = .ok (.sipush 1002, 3) := by decide +kernel
theorem dX13_init_26 : decode cX13_init 26 = .ok (.newarray .int, 2) := by decide +kernel
theorem dX13_init_28 : decode cX13_init 28 = .ok (.putfield 27, 3) := by decide +kernel
theorem dX13_init_31 : decode cX13_init 31 = .ok (.aload_n 0, 1) := by decide +kernel
theorem dX13_init_32 : decode cX13_init 32 = .ok (.sipush 1002, 3) := by decide +kernel
theorem dX13_init_35 : decode cX13_init 35 = .ok (.newarray .long, 2) := by decide +kernel
theorem dX13_init_37 : decode cX13_init 37 = .ok (.putfield 30, 3) := by decide +kernel
theorem dX13_init_40 : decode cX13_init 40 = .ok (.aload_n 0, 1) := by decide +kernel
theorem dX13_init_41 : decode cX13_init 41 = .ok (.bipush 31, 2) := by decide +kernel
theorem dX13_init_43 : decode cX13_init 43 = .ok (.newarray .long, 2) := by decide +kernel
theorem dX13_init_45 : decode cX13_init 45 = .ok (.dup, 1) := by decide +kernel
theorem dX13_init_46 : decode cX13_init 46 = .ok (.iconst 0, 1) := by decide +kernel
theorem dX13_init_47 : decode cX13_init 47 = .ok (.ldc2_w 34, 3) := by decide +kernel
theorem dX13_init_50 : decode cX13_init 50 = .ok (.lastore, 1) := by decide +kernel
theorem dX13_init_51 : decode cX13_init 51 = .ok (.dup, 1) := by decide +kernel
theorem dX13_init_52 : decode cX13_init 52 = .ok (.iconst 1, 1) := by decide +kernel
theorem dX13_init_53 : decode cX13_init 53 = .ok (.ldc2_w 36, 3) := by decide +kernel
theorem dX13_init_56 : decode cX13_init 56 = .ok (.lastore, 1) := by decide +kernel
theorem dX13_init_57 : decode cX13_init 57 = .ok (.dup, 1) := by decide +kernel
theorem dX13_init_58 : decode cX13_init 58 = .ok (.iconst 2, 1) := by decide +kernel
theorem dX13_init_59 : decode cX13_init 59 = .ok (.ldc2_w 38, 3) := by decide +kernel
theorem dX13_init_62 : decode cX13_init 62 = .ok (.lastore, 1) := by decide +kernel
theorem dX13_init_63 : decode cX13_init 63 = .ok (.dup, 1) := by decide +kernel
theorem dX13_init_64 : decode cX13_init 64 = .ok (.iconst 3, 1) := by decide +kernel
theorem dX13_init_65 : decode cX13_init 65 = .ok (.ldc2_w 40, 3) := by decide +kernel
theorem dX13_init_68 : decode cX13_init 68 = .ok (.lastore, 1) := by decide +kernel
theorem dX13_init_69 : decode cX13_init 69 = .ok (.dup, 1) := by decide +kernel
theorem dX13_init_70 : decode cX13_init 70 = .ok (.iconst 4, 1) := by decide +kernel
theorem dX13_init_71 : decode cX13_init 71 = .ok (.ldc2_w 42, 3) := by decide +kernel
theorem dX13_init_74 : decode cX13_init 74 = .ok (.lastore, 1) := by decide +kernel
theorem dX13_init_75 : decode cX13_init 75 = .ok (.dup, 1) := by decide +kernel
theorem dX13_init_76 : decode cX13_init 76 = .ok (.iconst 5, 1) := by decide +kernel
theorem dX13_init_77 : decode cX13_init 77 = .ok (.ldc2_w 44, 3) := by decide +kernel
theorem dX13_init_80 : decode cX13_init 80 = .ok (.lastore, 1) := by decide +kernel
theorem dX13_init_81 : decode cX13_init 81 = .ok (.dup, 1) := by decide +kernel
theorem dX13_init_82 : decode cX13_init 82 = .ok (.bipush 6, 2) := by decide +kernel
theorem dX13_init_84 : decode cX13_init 84 = .ok (.ldc2_w 46, 3) := by decide +kernel
theorem dX13_init_87 : decode cX13_init 87 = .ok (.lastore, 1) := by decide +kernel
theorem dX13_init_88 : decode cX13_init 88 = .ok (.dup, 1) := by decide +kernel
theorem dX13_init_89 : decode cX13_init 89 = .ok (.bipush 7, 2) := by decide +kernel
theorem dX13_init_91 : decode cX13_init 91 = .ok (.ldc2_w 48, 3) := by decide +kernel
theorem dX13_init_94 : decode cX13_init 94 = .ok (.lastore, 1) := by decide +kernel
theorem dX13_init_95 : decode cX13_init 95 = .ok (.dup, 1) := by decide +kernel
theorem dX13_init_96 : decode cX13_init 96 = .ok (.bipush 8, 2) := by decide +kernel
theorem dX13_init_98 : decode cX13_init 98 = .ok (.ldc2_w 50, 3) := by decide +kernel
theorem dX13_init_101 : decode cX13_init 101 = .ok (.lastore, 1) := by decide +kernel
theorem dX13_init_102 : decode cX13_init 102 = .ok (.dup, 1) := by decide +kernel
theorem dX13_init_103 : decode cX13_init 103 = .ok (.bipush 9, 2) := by decide +kernel
theorem dX13_init_105 : decode cX13_init 105 = .ok (.ldc2_w 52, 3) := by decide +kernel
theorem dX13_init_108 : decode cX13_init 108 = .ok (.lastore, 1) := by decide +kernel
theorem dX13_init_109 : decode cX13_init 109 = .ok (.dup, 1) := by decide +kernel
theorem dX13_init_110 : decode cX13_init 110 = .ok (.bipush 10, 2) := by decide +kernel
theorem dX13_init_112 : decode cX13_init 112 = .ok (.ldc2_w 54, 3) := by decide +kernel
theorem dX13_init_115 : decode cX13_init 115 = .ok (.lastore, 1) := by decide +kernel
theorem dX13_init_116 : decode cX13_init 116 = .ok (.dup, 1) := by decide +kernel
theorem dX13_init_117 : decode cX13_init 117 = .ok (.bipush 11, 2) := by decide +kernel
theorem dX13_init_119 : decode cX13_init 119 = .ok (.ldc2_w 56, 3) := by decide +kernel
theorem dX13_init_122 : decode cX13_init 122 = .ok (.lastore, 1) := by decide +kernel
theorem dX13_init_123 : decode cX13_init 123 = .ok (.dup, 1) := by decide +kernel
theorem dX13_init_124 : decode cX13_init 124 = .ok (.bipush 12, 2) := by decide +kernel
theorem dX13_init_126 : decode cX13_init 126 = .ok (.ldc2_w 58, 3) := by decide +kernel
theorem dX13_init_129 : decode cX13_init 129 = .ok (.lastore, 1) := by decide +kernel
theorem dX13_init_130 : decode cX13_init 130 = .ok (.dup, 1) := by decide +kernel
theorem dX13_init_131 : decode cX13_init 131 = .ok (.bipush 13, 2) := by decide +kernel
theorem dX13_init_133 : decode cX13_init 133 = .ok (.ldc2_w 60, 3) := by decide +kernel
theorem dX13_init_136 : decode cX13_init 136 = .ok (.lastore, 1) := by decide +kernel
theorem dX13_init_137 : decode cX13_init 137 = .ok (.dup, 1) := by decide +kernel
theorem dX13_init_138 : decode cX13_init 138 = .ok (.bipush 14, 2) := by decide +kernel
theorem dX13_init_140 : decode cX13_init 140 = .ok (.ldc2_w 62, 3) := by decide +kernel
theorem dX13_init_143 : decode cX13_init 143 = .ok (.lastore, 1) := by decide +kernel
theorem dX13_init_144 : decode cX13_init 144 = .ok (.dup, 1) := by decide +kernel
theorem dX13_init_145 : decode cX13_init 145 = .ok (.bipush 15, 2) := by decide +kernel
theorem dX13_init_147 : decode cX13_init 147 = .ok (.ldc2_w 64, 3) := by decide +kernel
theorem dX13_init_150 : decode cX13_init 150 = .ok (.lastore, 1) := by decide +kernel
theorem dX13_init_151 : decode cX13_init 151 = .ok (.dup, 1) := by decide +kernel
theorem dX13_init_152 : decode cX13_init 152 = .ok (.bipush 16, 2) := by decide +kernel
theorem dX13_init_154 : decode cX13_init 154 = .ok (.ldc2_w 66, 3) := by decide +kernel
theorem dX13_init_157 : decode cX13_init 157 = .ok (.lastore, 1) := by decide +kernel
theorem dX13_init_158 : decode cX13_init 158 = .ok (.dup, 1) := by decide +kernel
theorem dX13_init_159 : decode cX13_init 159 = .ok (.bipush 17, 2) := by decide +kernel
theorem dX13_init_161 : decode cX13_init 161 = .ok (.ldc2_w 68, 3) := by decide +kernel
theorem dX13_init_164 : decode cX13_init 164 = .ok (.lastore, 1) := by decide +kernel
theorem dX13_init_165 : decode cX13_init 165 = .ok (.dup, 1) := by decide +kernel
theorem dX13_init_166 : decode cX13_init 166 = .ok (.bipush 18, 2) := by decide +kernel
theorem dX13_init_168 : decode cX13_init 168 = .ok (.ldc2_w 70, 3) := by decide +kernel
theorem dX13_init_171 : decode cX13_init 171 = .ok (.lastore, 1) := by decide +kernel
theorem dX13_init_172 : decode cX13_init 172 = .ok (.dup, 1) := by decide +kernel
theorem dX13_init_173 : decode cX13_init 173 = .ok (.bipush 19, 2) := by decide +kernel
theorem dX13_init_175 : decode cX13_init 175 = .ok (.ldc2_w 72, 3) := by decide +kernel
theorem dX13_init_178 : decode cX13_init 178 = .ok (.lastore, 1) := by decide +kernel
theorem dX13_init_179 : decode cX13_init 179 = .ok (.dup, 1) := by decide +kernel
theorem dX13_init_180 : decode cX13_init 180 = .ok (.bipush 20, 2) := by decide +kernel
theorem dX13_init_182 : decode cX13_init 182 = .ok (.ldc2_w 74, 3) := by decide +kernel
theorem dX13_init_185 : decode cX13_init 185 = .ok (.lastore, 1) := by decide +kernel
theorem dX13_init_186 : decode cX13_init 186 = .ok (.dup, 1) := by decide +kernel
theorem dX13_init_187 : decode cX13_init 187 = .ok (.bipush 21, 2) := by decide +kernel
theorem dX13_init_189 : decode cX13_init 189 = .ok (.ldc2_w 76, 3) := by decide +kernel
theorem dX13_init_192 : decode cX13_init 192 = .ok (.lastore, 1) := by decide +kernel
theorem dX13_init_193 : decode cX13_init 193 = .ok (.dup, 1) := by decide +kernel
theorem dX13_init_194 : decode cX13_init 194 = .ok (.bipush 22, 2) := by decide +kernel
theorem dX13_init_196 : decode cX13_init 196 = .ok (.ldc2_w 78, 3) := by decide +kernel
theorem dX13_init_199 : decode cX13_init 199 = .ok (.lastore, 1) := by decide +kernel
theorem dX13_init_200 : decode cX13_init 200 = .ok (.dup, 1) := by decide +kernel
theorem dX13_init_201 : decode cX13_init 201 = .ok (.bipush 23, 2) := by decide +kernel
theorem dX13_init_203 : decode cX13_init 203 = .ok (.ldc2_w 80, 3) := by decide +kernel
theorem dX13_init_206 : decode cX13_init 206 = .ok (.lastore, 1) := by decide +kernel
theorem dX13_init_207 : decode cX13_init 207 = .ok (.dup, 1) := by decide +kernel
theorem dX13_init_208 : decode cX13_init 208 = .ok (.bipush 24, 2) := by decide +kernel
theorem dX13_init_210 : decode cX13_init 210 = .ok (.ldc2_w 82, 3) := by decide +kernel
theorem dX13_init_213 : decode cX13_init 213 = .ok (.lastore, 1) := by decide +kernel
theorem dX13_init_214 : decode cX13_init 214 = .ok (.dup, 1) := by decide +kernel
theorem dX13_init_215 : decode cX13_init 215 = .ok (.bipush 25, 2) := by decide +kernel
theorem dX13_init_217 : decode cX13_init 217 = .ok (.ldc2_w 84, 3) := by decide +kernel
theorem dX13_init_220 : decode cX13_init 220 = .ok (.lastore, 1) := by decide +kernel
theorem dX13_init_221 : decode cX13_init 221 = .ok (.dup, 1) := by decide +kernel
theorem dX13_init_222 : decode cX13_init 222 = .ok (.bipush 26, 2) := by decide +kernel
theorem dX13_init_224 : decode cX13_init 224 = .ok (.ldc2_w 86, 3) := by decide +kernel
theorem dX13_init_227 : decode cX13_init 227 = .ok (.lastore, 1) := by decide +kernel
theorem dX13_init_228 : decode cX13_init 228 = .ok (.dup, 1) := by decide +kernel
theorem dX13_init_229 : decode cX13_init 229 = .ok (.bipush 27, 2) := by decide +kernel
theorem dX13_init_231 : decode cX13_init 231 = .ok (.ldc2_w 88, 3) := by decide +kernel
theorem dX13_init_234 : decode cX13_init 234 = .ok (.lastore, 1) := by decide +kernel
theorem dX13_init_235 : decode cX13_init 235 = .ok (.dup, 1) := by decide +kernel
theorem dX13_init_236 : decode cX13_init 236 = .ok (.bipush 28, 2) := by decide +kernel
theorem dX13_init_238 : decode cX13_init 238 = .ok (.ldc2_w 90, 3) := by decide +kernel
theorem dX13_init_241 : decode cX13_init 241 = .ok (.lastore, 1) := by decide +kernel
theorem dX13_init_242 : decode cX13_init 242 = .ok (.dup, 1) := by decide +kernel
theorem dX13_init_243 : decode cX13_init 243 = .ok (.bipush 29, 2) := by decide +kernel
theorem dX13_init_245 : decode cX13_init 245 = .ok (.ldc2_w 92, 3) := by decide +kernel
theorem dX13_init_248 : decode cX13_init 248 = .ok (.lastore, 1) := by decide +kernel
theorem dX13_init_249 : decode cX13_init 249 = .ok (.dup, 1) := by decide +kernel
theorem dX13_init_250 : decode cX13_init 250 = .ok (.bipush 30, 2) := by decide +kernel
theorem dX13_init_252 : decode cX13_init 252 = .ok (.ldc2_w 94, 3) := by decide +kernel
theorem dX13_init_255 : decode cX13_init 255 = .ok (.lastore, 1) := by decide +kernel
theorem dX13_init_256 : decode cX13_init 256 = .ok (.putfield 96, 3) := by decide +kernel
theorem dX13_init_259 : decode cX13_init 259 = .ok (.aload_n 0, 1) := by decide +kernel
theorem dX13_init_260 : decode cX13_init 260 = .ok (.sipush 220, 3) := by decide +kernel
theorem dX13_init_263 : decode cX13_init 263 = .ok (.newarray .int, 2) := by decide +kernel
theorem dX13_init_265 : decode cX13_init 265 = .ok (.putfield 99, 3) := by decide +kernel
theorem dX13_init_268 : decode cX13_init 268 = .ok (.aload_n 0, 1) := by decide +kernel
theorem dX13_init_269 : decode cX13_init 269 = .ok (.sipush 2200, 3) := by decide +kernel
theorem dX13_init_272 : decode cX13_init 272 = .ok (.newarray .int, 2) := by decide +kernel
theorem dX13_init_274 : decode cX13_init 274 = .ok (.putfield 102, 3) := by decide +kernel
theorem dX13_init_277 : decode cX13_init 277 = .ok (.aload_n 0, 1) := by decide +kernel
theorem dX13_init_278 : decode cX13_init 278 = .ok (.sipush 2200, 3) := by decide +kernel
theorem dX13_init_281 : decode cX13_init 281 = .ok (.newarray .int, 2) := by decide +kernel
theorem dX13_init_283 : decode cX13_init 283 = .ok (.putfield 105, 3) := by decide +kernel
theorem dX13_init_286 : decode cX13_init 286 = .ok (.aload_n 0, 1) := by decide +kernel
theorem dX13_init_287 : decode cX13_init 287 = .ok (.bipush 6, 2) := by decide +kernel
theorem dX13_init_289 : decode cX13_init 289 = .ok (.newarray .long, 2) := by decide +kernel
theorem dX13_init_291 : decode cX13_init 291 = .ok (.putfield 108, 3) := by decide +kernel
theorem dX13_init_294 : decode cX13_init 294 = .ok (.aload_n 0, 1) := by decide +kernel
theorem dX13_init_295 : decode cX13_init 295 = .ok (.bipush 6, 2) := by decide +kernel
theorem dX13_init_297 : decode cX13_init 297 = .ok (.newarray .long, 2) := by decide +kernel
theorem dX13_init_299 : decode cX13_init 299 = .ok (.putfield 111, 3) := by decide +kernel
theorem dX13_init_302 : decode cX13_init 302 = .ok (.aload_n 0, 1) := by decide +kernel
theorem dX13_init_303 : decode cX13_init 303 = .ok (.sipush 160, 3) := by decide +kernel
theorem dX13_init_306 : decode cX13_init 306 = .ok (.newarray .int, 2) := by decide +kernel
theorem dX13_init_308 : decode cX13_init 308 = .ok (.putfield 114, 3) := by decide +kernel
theorem dX13_init_311 : decode cX13_init 311 = .ok (.aload_n 0, 1) := by decide +kernel
theorem dX13_init_312 : decode cX13_init 312 = .ok (.bipush 6, 2) := by decide +kernel
theorem dX13_init_314 : decode cX13_init 314 = .ok (.newarray .int, 2) := by decide +kernel
theorem dX13_init_316 : decode cX13_init 316 = .ok (.putfield 117, 3) := by decide +kernel
theorem dX13_init_319 : decode cX13_init 319 = .ok (.aload_n 0, 1) := by decide +kernel
theorem dX13_init_320 : decode cX13_init 320 = .ok (.iconst 4, 1) := by decide +kernel
theorem dX13_init_321 : decode cX13_init 321 = .ok (.newarray .int, 2) := by decide +kernel
theorem dX13_init_323 : decode cX13_init 323 = .ok (.putfield 120, 3) := by decide +kernel
theorem dX13_init_326 : decode cX13_init 326 = .ok (.aload_n 0, 1) := by decide +kernel
theorem dX13_init_327 : decode cX13_init 327 = .ok (.sipush 1100, 3) := by decide +kernel
theorem dX13_init_330 : decode cX13_init 330 = .ok (.newarray .int, 2) := by decide +kernel
theorem dX13_init_332 : decode cX13_init 332 = .ok (.putfield 123, 3) := by decide +kernel
theorem dX13_init_335 : decode cX13_init 335 = .ok (.aload_n 0, 1) := by decide +kernel
theorem dX13_init_336 : decode cX13_init 336 = .ok (.sipush 1320, 3) := by decide +kernel
theorem dX13_init_339 : decode cX13_init 339 = .ok (.newarray .int, 2) := by decide +kernel
theorem dX13_init_341 : decode cX13_init 341 = .ok (.putfield 126, 3) := by decide +kernel
theorem dX13_init_344 : decode cX13_init 344 = .ok (.aload_n 0, 1) := by decide +kernel
theorem dX13_init_345 : decode cX13_init 345 = .ok (.iconst 4, 1) := by decide +kernel
theorem dX13_init_346 : decode cX13_init 346 = .ok (.newarray .boolean, 2) := by decide +kernel
theorem dX13_init_348 : decode cX13_init 348 = .ok (.putfield 129, 3) := by decide +kernel
theorem dX13_init_351 : decode cX13_init 351 = .ok (.aload_n 0, 1) := by decide +kernel
theorem dX13_init_352 : decode cX13_init 352 = .ok (.bipush 36, 2) := by decide +kernel
theorem dX13_init_354 : decode cX13_init 354 = .ok (.newarray .int, 2) := by decide +kernel
theorem dX13_init_356 : decode cX13_init 356 = .ok (.putfield 133, 3) := by decide +kernel
theorem dX13_init_359 : decode cX13_init 359 = .ok (.aload_n 0, 1) := by decide +kernel
theorem dX13_init_360 : decode cX13_init 360 = .ok (.bipush 6, 2) := by decide +kernel
theorem dX13_init_362 : decode cX13_init 362 = .ok (.newarray .int, 2) := by decide +kernel
theorem dX13_init_364 : decode cX13_init 364 = .ok (.putfield 136, 3) := by decide +kernel
theorem dX13_init_367 : decode cX13_init 367 = .ok (.aload_n 0, 1) := by decide +kernel
theorem dX13_init_368 : decode cX13_init 368 = .ok (.bipush 6, 2) := by decide +kernel
theorem dX13_init_370 : decode cX13_init 370 = .ok (.newarray .int, 2) := by decide +kernel
theorem dX13_init_372 : decode cX13_init 372 = .ok (.putfield 139, 3) := by decide +kernel
theorem dX13_init_375 : decode cX13_init 375 = .ok (.aload_n 0, 1) := by decide +kernel
theorem dX13_init_376 : decode cX13_init 376 = .ok (.sipush 14400, 3) := by decide +kernel
theorem dX13_init_379 : decode cX13_init 379 = .ok (.newarray .int, 2) := by decide +kernel
theorem dX13_init_381 : decode cX13_init 381 = .ok (.putfield 142, 3) := by decide +kernel
theorem dX13_init_384 : decode cX13_init 384 = .ok (.aload_n 0, 1) := by decide +kernel
theorem dX13_init_385 : decode cX13_init 385 = .ok (.bipush 6, 2) := by decide +kernel
theorem dX13_init_387 : decode cX13_init 387 = .ok (.newarray .int, 2) := by decide +kernel
theorem dX13_init_389 : decode cX13_init 389 = .ok (.putfield 145, 3) := by decide +kernel
theorem dX13_init_392 : decode cX13_init 392 = .ok (.aload_n 0, 1) := by decide +kernel
theorem dX13_init_393 : decode cX13_init 393 = .ok (.bipush 6, 2) := by decide +kernel
theorem dX13_init_395 : decode cX13_init 395 = .ok (.newarray .int, 2) := by decide +kernel
theorem dX13_init_397 : decode cX13_init 397 = .ok (.putfield 148, 3) := by decide +kernel
theorem dX13_init_400 : decode cX13_init 400 = .ok (.aload_n 0, 1) := by decide +kernel
theorem dX13_init_401 : decode cX13_init 401 = .ok (.bipush 6, 2) := by decide +kernel
theorem dX13_init_403 : decode cX13_init 403 = .ok (.newarray .int, 2) := by decide +kernel
theorem dX13_init_405 : decode cX13_init 405 = .ok (.putfield 151, 3) := by decide +kernel
theorem dX13_init_408 : decode cX13_init 408 = .ok (.aload_n 0, 1) := by decide +kernel
theorem dX13_init_409 : decode cX13_init 409 = .ok (.bipush 6, 2) := by decide +kernel
theorem dX13_init_411 : decode cX13_init 411 = .ok (.newarray .int, 2) := by decide +kernel
theorem dX13_init_413 : decode cX13_init 413 = .ok (.putfield 154, 3) := by decide +kernel
theorem dX13_init_416 : decode cX13_init 416 = .ok (.aload_n 0, 1) := by decide +kernel
theorem dX13_init_417 : decode cX13_init 417 = .ok (.sipush 441, 3) := by decide +kernel
theorem dX13_init_420 : decode cX13_init 420 = .ok (.newarray .boolean, 2) := by decide +kernel
theorem dX13_init_422 : decode cX13_init 422 = .ok (.putfield 157, 3) := by decide +kernel
theorem dX13_init_425 : decode cX13_init 425 = .ok (.aload_n 0, 1) := by decide +kernel
theorem dX13_init_426 : decode cX13_init 426 = .ok (.iconst 0, 1) := by decide +kernel
theorem dX13_init_427 : decode cX13_init 427 = .ok (.invokevirtual 160, 3) := by decide +kernel
theorem dX13_init_430 : decode cX13_init 430 = .ok (.aload_n 0, 1) := by decide +kernel
theorem dX13_init_431 : decode cX13_init 431 = .ok (.invokevirtual 164, 3) := by decide +kernel
theorem dX13_init_434 : decode cX13_init 434 = .ok (.return_, 1) := by decide +kernel
theorem dX13_isLetter_0 : decode cX13_isLetter 0 = .ok (.iload_n 0, 1) := by decide +kernel
theorem dX13_isLetter_1 : decode cX13_isLetter 1 = .ok (.bipush 97, 2) := by decide +kernel
theorem dX13_isLetter_3 : decode cX13_isLetter 3 = .ok (.if_icmp .lt 13, 3) := by decide +kernel
theorem dX13_isLetter_6 : decode cX13_isLetter 6 = .ok (.iload_n 0, 1) := by decide +kernel
theorem dX13_isLetter_7 : decode cX13_isLetter 7 = .ok (.bipush 122, 2) := by decide +kernel
theorem dX13_isLetter_9 : decode cX13_isLetter 9 = .ok (.if_icmp .gt 7, 3) := by decide +kernel
theorem dX13_isLetter_12 : decode cX13_isLetter 12 = .ok (.iconst 1, 1) := by decide +kernel
theorem dX13_isLetter_13 : decode cX13_isLetter 13 = .ok (.goto 4, 3) := by decide +kernel
theorem dX13_isLetter_16 : decode cX13_isLetter 16 = .ok (.iconst 0, 1) := by decide +kernel
theorem dX13_isLetter_17 : decode cX13_isLetter 17 = .ok (.ireturn, 1) := by decide +kernel
theorem dX13_isDigit_0 : decode cX13_isDigit 0 = .ok (.iload_n 0, 1) := by decide +kernel
theorem dX13_isDigit_1 : decode cX13_isDigit 1 = .ok (.bipush 48, 2) := by decide +kernel
theorem dX13_isDigit_3 : decode cX13_isDigit 3 = .ok (.if_icmp .lt 13, 3) := by decide +kernel
theorem dX13_isDigit_6 : decode cX13_isDigit 6 = .ok (.iload_n 0, 1) := by decide +kernel
theorem dX13_isDigit_7 : decode cX13_isDigit 7 = .ok (.bipush 57, 2) := by decide +kernel
theorem dX13_isDigit_9 : decode cX13_isDigit 9 = .ok (.if_icmp .gt 7, 3) := by decide +kernel
theorem dX13_isDigit_12 : decode cX13_isDigit 12 = .ok (.iconst 1, 1) := by decide +kernel
theorem dX13_isDigit_13 : decode cX13_isDigit 13 = .ok (.goto 4, 3) := by decide +kernel
theorem dX13_isDigit_16 : decode cX13_isDigit 16 = .ok (.iconst 0, 1) := by decide +kernel
theorem dX13_isDigit_17 : decode cX13_isDigit 17 = .ok (.ireturn, 1) := by decide +kernel
theorem dX13_rank_0 : decode cX13_rank 0 = .ok (.iload_n 0, 1) := by decide +kernel
theorem dX13_rank_1 : decode cX13_rank 1 = .ok (.invokestatic 167, 3) := by decide +kernel
theorem dX13_rank_4 : decode cX13_rank 4 = .ok (.ifCond .eq 10, 3) := by decide +kernel
theorem dX13_rank_7 : decode cX13_rank 7 = .ok (.iload_n 0, 1) := by decide +kernel
theorem dX13_rank_8 : decode cX13_rank 8 = .ok (.bipush 96, 2) := by decide +kernel
theorem dX13_rank_10 : decode cX13_rank 10 = .ok (.isub, 1) := by decide +kernel
theorem dX13_rank_11 : decode cX13_rank 11 = .ok (.goto 7, 3) := by decide +kernel
theorem dX13_rank_14 : decode cX13_rank 14 = .ok (.iload_n 0, 1) := by decide +kernel
theorem dX13_rank_15 : decode cX13_rank 15 = .ok (.bipush 21, 2) := by decide +kernel
theorem dX13_rank_17 : decode cX13_rank 17 = .ok (.isub, 1) := by decide +kernel
theorem dX13_rank_18 : decode cX13_rank 18 = .ok (.ireturn, 1) := by decide +kernel
theorem dX13_isSignOf_0 : decode cX13_isSignOf 0 = .ok (.iload_n 0, 1) := by decide +kernel
theorem dX13_isSignOf_1 : decode cX13_isSignOf 1 = .ok (.bipush 40, 2) := by decide +kernel
theorem dX13_isSignOf_3 : decode cX13_isSignOf 3 = .ok (.if_icmp .eq 45, 3) := by decide +kernel
theorem dX13_isSignOf_6 : decode cX13_isSignOf 6 = .ok (.iload_n 0, 1) := by decide +kernel
theorem dX13_isSignOf_7 : decode cX13_isSignOf 7 = .ok (.bipush 41, 2) := by decide +kernel
theorem dX13_isSignOf_9 : decode cX13_isSignOf 9 = .ok (.if_icmp .eq 39, 3) := by decide +kernel
theorem dX13_isSignOf_12 : decode cX13_isSignOf 12 = .ok (.iload_n 0, 1) := by decide +kernel
theorem dX13_isSignOf_13 : decode cX13_isSignOf 13 = .ok (.bipush 59, 2) := by decide +kernel
theorem dX13_isSignOf_15 : decode cX13_isSignOf 15 = .ok (.if_icmp .eq 33, 3) := by decide +kernel
theorem dX13_isSignOf_18 : decode cX13_isSignOf 18 = .ok (.iload_n 0, 1) := by decide +kernel
theorem dX13_isSignOf_19 : decode cX13_isSignOf 19 = .ok (.bipush 61, 2) := by decide +kernel
theorem dX13_isSignOf_21 : decode cX13_isSignOf 21 = .ok (.if_icmp .eq 27, 3) := by decide +kernel
theorem dX13_isSignOf_24 : decode cX13_isSignOf 24 = .ok (.iload_n 0, 1) := by decide +kernel
theorem dX13_isSignOf_25 : decode cX13_isSignOf 25 = .ok (.bipush 60, 2) := by decide +kernel
theorem dX13_isSignOf_27 : decode cX13_isSignOf 27 = .ok (.if_icmp .eq 21, 3) := by decide +kernel
theorem dX13_isSignOf_30 : decode cX13_isSignOf 30 = .ok (.iload_n 0, 1) := by decide +kernel
theorem dX13_isSignOf_31 : decode cX13_isSignOf 31 = .ok (.bipush 43, 2) := by decide +kernel
theorem dX13_isSignOf_33 : decode cX13_isSignOf 33 = .ok (.if_icmp .eq 15, 3) := by decide +kernel
theorem dX13_isSignOf_36 : decode cX13_isSignOf 36 = .ok (.iload_n 0, 1) := by decide +kernel
theorem dX13_isSignOf_37 : decode cX13_isSignOf 37 = .ok (.bipush 45, 2) := by decide +kernel
theorem dX13_isSignOf_39 : decode cX13_isSignOf 39 = .ok (.if_icmp .eq 9, 3) := by decide +kernel
theorem dX13_isSignOf_42 : decode cX13_isSignOf 42 = .ok (.iload_n 0, 1) := by decide +kernel
theorem dX13_isSignOf_43 : decode cX13_isSignOf 43 = .ok (.bipush 42, 2) := by decide +kernel
theorem dX13_isSignOf_45 : decode cX13_isSignOf 45 = .ok (.if_icmp .ne 7, 3) := by decide +kernel
theorem dX13_isSignOf_48 : decode cX13_isSignOf 48 = .ok (.iconst 1, 1) := by decide +kernel
theorem dX13_isSignOf_49 : decode cX13_isSignOf 49 = .ok (.goto 4, 3) := by decide +kernel
theorem dX13_isSignOf_52 : decode cX13_isSignOf 52 = .ok (.iconst 0, 1) := by decide +kernel
theorem dX13_isSignOf_53 : decode cX13_isSignOf 53 = .ok (.ireturn, 1) := by decide +kernel
theorem dX13_cutAll_0 : decode cX13_cutAll 0 = .ok (.aload_n 0, 1) := by decide +kernel
theorem dX13_cutAll_1 : decode cX13_cutAll 1 = .ok (.aload_n 0, 1) := by decide +kernel
theorem dX13_cutAll_2 : decode cX13_cutAll 2 = .ok (.getfield 11, 3) := by decide +kernel
theorem dX13_cutAll_5 : decode cX13_cutAll 5 = .ok (.putfield 171, 3) := by decide +kernel
theorem dX13_cutAll_8 : decode cX13_cutAll 8 = .ok (.aload_n 0, 1) := by decide +kernel
theorem dX13_cutAll_9 : decode cX13_cutAll 9 = .ok (.iconst 0, 1) := by decide +kernel
theorem dX13_cutAll_10 : decode cX13_cutAll 10 = .ok (.putfield 11, 3) := by decide +kernel
theorem dX13_cutAll_13 : decode cX13_cutAll 13 = .ok (.iconst 0, 1) := by decide +kernel
theorem dX13_cutAll_14 : decode cX13_cutAll 14 = .ok (.istore_n 1, 1) := by decide +kernel
theorem dX13_cutAll_15 : decode cX13_cutAll 15 = .ok (.iconst 0, 1) := by decide +kernel
theorem dX13_cutAll_16 : decode cX13_cutAll 16 = .ok (.istore_n 2, 1) := by decide +kernel
theorem dX13_cutAll_17 : decode cX13_cutAll 17 = .ok (.iload_n 2, 1) := by decide +kernel
theorem dX13_cutAll_18 : decode cX13_cutAll 18 = .ok (.aload_n 0, 1) := by decide +kernel
theorem dX13_cutAll_19 : decode cX13_cutAll 19 = .ok (.getfield 171, 3) := by decide +kernel
theorem dX13_cutAll_22 : decode cX13_cutAll 22 = .ok (.if_icmp .ge 257, 3) := by decide +kernel
theorem dX13_cutAll_25 : decode cX13_cutAll 25 = .ok (.aload_n 0, 1) := by decide +kernel
theorem dX13_cutAll_26 : decode cX13_cutAll 26 = .ok (.getfield 14, 3) := by decide +kernel
theorem dX13_cutAll_29 : decode cX13_cutAll 29 = .ok (.iload_n 2, 1) := by decide +kernel
theorem dX13_cutAll_30 : decode cX13_cutAll 30 = .ok (.iaload, 1) := by decide +kernel
theorem dX13_cutAll_31 : decode cX13_cutAll 31 = .ok (.istore_n 3, 1) := by decide +kernel
theorem dX13_cutAll_32 : decode cX13_cutAll 32 = .ok (.iload_n 3, 1) := by decide +kernel
theorem dX13_cutAll_33 : decode cX13_cutAll 33 = .ok (.bipush 10, 2) := by decide +kernel
theorem dX13_cutAll_35 : decode cX13_cutAll 35 = .ok (.if_icmp .eq 9, 3) := by decide +kernel
theorem dX13_cutAll_38 : decode cX13_cutAll 38 = .ok (.iload_n 3, 1) := by decide +kernel
theorem dX13_cutAll_39 : decode cX13_cutAll 39 = .ok (.bipush 32, 2) := by decide +kernel
theorem dX13_cutAll_41 : decode cX13_cutAll 41 = .ok (.if_icmp .ne 9, 3) := by decide +kernel
theorem dX13_cutAll_44 : decode cX13_cutAll 44 = .ok (.iinc 2 1, 3) := by decide +kernel
theorem dX13_cutAll_47 : decode cX13_cutAll 47 = .ok (.goto (-30), 3) := by decide +kernel
theorem dX13_cutAll_50 : decode cX13_cutAll 50 = .ok (.iload_n 2, 1) := by decide +kernel
theorem dX13_cutAll_51 : decode cX13_cutAll 51 = .ok (.istore 4, 2) := by decide +kernel
theorem dX13_cutAll_53 : decode cX13_cutAll 53 = .ok (.lconst 0, 1) := by decide +kernel
theorem dX13_cutAll_54 : decode cX13_cutAll 54 = .ok (.lstore 5, 2) := by decide +kernel
theorem dX13_cutAll_56 : decode cX13_cutAll 56 = .ok (.aload_n 0, 1) := by decide +kernel
theorem dX13_cutAll_57 : decode cX13_cutAll 57 = .ok (.getfield 27, 3) := by decide +kernel
theorem dX13_cutAll_60 : decode cX13_cutAll 60 = .ok (.iload_n 1, 1) := by decide +kernel
theorem dX13_cutAll_61 : decode cX13_cutAll 61 = .ok (.iload_n 2, 1) := by decide +kernel
theorem dX13_cutAll_62 : decode cX13_cutAll 62 = .ok (.iastore, 1) := by decide +kernel
theorem dX13_cutAll_63 : decode cX13_cutAll 63 = .ok (.iload_n 3, 1) := by decide +kernel
theorem dX13_cutAll_64 : decode cX13_cutAll 64 = .ok (.invokestatic 167, 3) := by decide +kernel
theorem dX13_cutAll_67 : decode cX13_cutAll 67 = .ok (.ifCond .eq 85, 3) := by decide +kernel
theorem dX13_cutAll_70 : decode cX13_cutAll 70 = .ok (.iload_n 2, 1) := by decide +kernel
theorem dX13_cutAll_71 : decode cX13_cutAll 71 = .ok (.aload_n 0, 1) := by decide +kernel
theorem dX13_cutAll_72 : decode cX13_cutAll 72 = .ok (.getfield 171, 3) := by decide +kernel
theorem dX13_cutAll_75 : decode cX13_cutAll 75 = .ok (.if_icmp .ge 54, 3) := by decide +kernel
theorem dX13_cutAll_78 : decode cX13_cutAll 78 = .ok (.aload_n 0, 1) := by decide +kernel
theorem dX13_cutAll_79 : decode cX13_cutAll 79 = .ok (.getfield 14, 3) := by decide +kernel
theorem dX13_cutAll_82 : decode cX13_cutAll 82 = .ok (.iload_n 2, 1) := by decide +kernel
theorem dX13_cutAll_83 : decode cX13_cutAll 83 = .ok (.iaload, 1) := by decide +kernel
theorem dX13_cutAll_84 : decode cX13_cutAll 84 = .ok (.invokestatic 167, 3) := by decide +kernel
theorem dX13_cutAll_87 : decode cX13_cutAll 87 = .ok (.ifCond .eq 42, 3) := by decide +kernel
theorem dX13_cutAll_90 : decode cX13_cutAll 90 = .ok (.iload_n 2, 1) := by decide +kernel
theorem dX13_cutAll_91 : decode cX13_cutAll 91 = .ok (.iload 4, 2) := by decide +kernel
theorem dX13_cutAll_93 : decode cX13_cutAll 93 = .ok (.isub, 1) := by decide +kernel
theorem dX13_cutAll_94 : decode cX13_cutAll 94 = .ok (.bipush 8, 2) := by decide +kernel
theorem dX13_cutAll_96 : decode cX13_cutAll 96 = .ok (.if_icmp .ge 23, 3) := by decide +kernel
theorem dX13_cutAll_99 : decode cX13_cutAll 99 = .ok (.ldc2_w 174, 3) := by decide +kernel
theorem dX13_cutAll_102 : decode cX13_cutAll 102 = .ok (.lload 5, 2) := by decide +kernel
theorem dX13_cutAll_104 : decode cX13_cutAll 104 = .ok (.lmul, 1) := by decide +kernel
theorem dX13_cutAll_105 : decode cX13_cutAll 105 = .ok (.aload_n 0, 1) := by decide +kernel
theorem dX13_cutAll_106 : decode cX13_cutAll 106 = .ok (.getfield 14, 3) := by decide +kernel
theorem dX13_cutAll_109 : decode cX13_cutAll 109 = .ok (.iload_n 2, 1) := by decide +kernel
theorem dX13_cutAll_110 : decode cX13_cutAll 110 = .ok (.iaload, 1) := by decide +kernel
theorem dX13_cutAll_111 : decode cX13_cutAll 111 = .ok (.invokestatic 176, 3) := by decide +kernel
theorem dX13_cutAll_114 : decode cX13_cutAll 114 = .ok (.i2l, 1) := by decide +kernel
theorem dX13_cutAll_115 : decode cX13_cutAll 115 = .ok (.ladd, 1) := by decide +kernel
theorem dX13_cutAll_116 : decode cX13_cutAll 116 = .ok (.goto 5, 3) := by decide +kernel
theorem dX13_cutAll_119 : decode cX13_cutAll 119 = .ok (.lload 5, 2) := by decide +kernel
theorem dX13_cutAll_121 : decode cX13_cutAll 121 = .ok (.lstore 5, 2) := by decide +kernel
theorem dX13_cutAll_123 : decode cX13_cutAll 123 = .ok (.iinc 2 1, 3) := by decide +kernel
theorem dX13_cutAll_126 : decode cX13_cutAll 126 = .ok (.goto (-56), 3) := by decide +kernel
theorem dX13_cutAll_129 : decode cX13_cutAll 129 = .ok (.aload_n 0, 1) := by decide +kernel
theorem dX13_cutAll_130 : decode cX13_cutAll 130 = .ok (.getfield 24, 3) := by decide +kernel
theorem dX13_cutAll_133 : decode cX13_cutAll 133 = .ok (.iload_n 1, 1) := by decide +kernel
theorem dX13_cutAll_134 : decode cX13_cutAll 134 = .ok (.iload_n 2, 1) := by decide +kernel
theorem dX13_cutAll_135 : decode cX13_cutAll 135 = .ok (.iload 4, 2) := by decide +kernel
theorem dX13_cutAll_137 : decode cX13_cutAll 137 = .ok (.isub, 1) := by decide +kernel
theorem dX13_cutAll_138 : decode cX13_cutAll 138 = .ok (.bipush 8, 2) := by decide +kernel
theorem dX13_cutAll_140 : decode cX13_cutAll 140 = .ok (.if_icmp .le 7, 3) := by decide +kernel
theorem dX13_cutAll_143 : decode cX13_cutAll 143 = .ok (.iconst 4, 1) := by decide +kernel
theorem dX13_cutAll_144 : decode cX13_cutAll 144 = .ok (.goto 4, 3) := by decide +kernel
theorem dX13_cutAll_147 : decode cX13_cutAll 147 = .ok (.iconst 1, 1) := by decide +kernel
theorem dX13_cutAll_148 : decode cX13_cutAll 148 = .ok (.iastore, 1) := by decide +kernel
theorem dX13_cutAll_149 : decode cX13_cutAll 149 = .ok (.goto 116, 3) := by decide +kernel
theorem dX13_cutAll_152 : decode cX13_cutAll 152 = .ok (.iload_n 3, 1) := by decide +kernel
theorem dX13_cutAll_153 : decode cX13_cutAll 153 = .ok (.invokestatic 180, 3) := by decide +kernel
theorem dX13_cutAll_156 : decode cX13_cutAll 156 = .ok (.ifCond .eq 84, 3) := by decide +kernel
theorem dX13_cutAll_159 : decode cX13_cutAll 159 = .ok (.iload_n 2, 1) := by decide +kernel
theorem dX13_cutAll_160 : decode cX13_cutAll 160 = .ok (.aload_n 0, 1) := by decide +kernel
theorem dX13_cutAll_161 : decode cX13_cutAll 161 = .ok (.getfield 171, 3) := by decide +kernel
theorem dX13_cutAll_164 : decode cX13_cutAll 164 = .ok (.if_icmp .ge 54, 3) := by decide +kernel
theorem dX13_cutAll_167 : decode cX13_cutAll 167 = .ok (.aload_n 0, 1) := by decide +kernel
theorem dX13_cutAll_168 : decode cX13_cutAll 168 = .ok (.getfield 14, 3) := by decide +kernel
theorem dX13_cutAll_171 : decode cX13_cutAll 171 = .ok (.iload_n 2, 1) := by decide +kernel
theorem dX13_cutAll_172 : decode cX13_cutAll 172 = .ok (.iaload, 1) := by decide +kernel
theorem dX13_cutAll_173 : decode cX13_cutAll 173 = .ok (.invokestatic 180, 3) := by decide +kernel
theorem dX13_cutAll_176 : decode cX13_cutAll 176 = .ok (.ifCond .eq 42, 3) := by decide +kernel
theorem dX13_cutAll_179 : decode cX13_cutAll 179 = .ok (.iload_n 2, 1) := by decide +kernel
theorem dX13_cutAll_180 : decode cX13_cutAll 180 = .ok (.iload 4, 2) := by decide +kernel
theorem dX13_cutAll_182 : decode cX13_cutAll 182 = .ok (.isub, 1) := by decide +kernel
theorem dX13_cutAll_183 : decode cX13_cutAll 183 = .ok (.iconst 4, 1) := by decide +kernel
theorem dX13_cutAll_184 : decode cX13_cutAll 184 = .ok (.if_icmp .ge 24, 3) := by decide +kernel
theorem dX13_cutAll_187 : decode cX13_cutAll 187 = .ok (.ldc2_w 183, 3) := by decide +kernel
theorem dX13_cutAll_190 : decode cX13_cutAll 190 = .ok (.lload 5, 2) := by decide +kernel
theorem dX13_cutAll_192 : decode cX13_cutAll 192 = .ok (.lmul, 1) := by decide +kernel
theorem dX13_cutAll_193 : decode cX13_cutAll 193 = .ok (.aload_n 0, 1) := by decide +kernel
theorem dX13_cutAll_194 : decode cX13_cutAll 194 = .ok (.getfield 14, 3) := by decide +kernel
theorem dX13_cutAll_197 : decode cX13_cutAll 197 = .ok (.iload_n 2, 1) := by decide +kernel
theorem dX13_cutAll_198 : decode cX13_cutAll 198 = .ok (.iaload, 1) := by decide +kernel
theorem dX13_cutAll_199 : decode cX13_cutAll 199 = .ok (.i2l, 1) := by decide +kernel
theorem dX13_cutAll_200 : decode cX13_cutAll 200 = .ok (.ladd, 1) := by decide +kernel
theorem dX13_cutAll_201 : decode cX13_cutAll 201 = .ok (.ldc2_w 185, 3) := by decide +kernel
theorem dX13_cutAll_204 : decode cX13_cutAll 204 = .ok (.lsub, 1) := by decide +kernel
theorem dX13_cutAll_205 : decode cX13_cutAll 205 = .ok (.goto 5, 3) := by decide +kernel
theorem dX13_cutAll_208 : decode cX13_cutAll 208 = .ok (.lload 5, 2) := by decide +kernel
theorem dX13_cutAll_210 : decode cX13_cutAll 210 = .ok (.lstore 5, 2) := by decide +kernel
theorem dX13_cutAll_212 : decode cX13_cutAll 212 = .ok (.iinc 2 1, 3) := by decide +kernel
theorem dX13_cutAll_215 : decode cX13_cutAll 215 = .ok (.goto (-56), 3) := by decide +kernel
theorem dX13_cutAll_218 : decode cX13_cutAll 218 = .ok (.aload_n 0, 1) := by decide +kernel
theorem dX13_cutAll_219 : decode cX13_cutAll 219 = .ok (.getfield 24, 3) := by decide +kernel
theorem dX13_cutAll_222 : decode cX13_cutAll 222 = .ok (.iload_n 1, 1) := by decide +kernel
theorem dX13_cutAll_223 : decode cX13_cutAll 223 = .ok (.iload_n 2, 1) := by decide +kernel
theorem dX13_cutAll_224 : decode cX13_cutAll 224 = .ok (.iload 4, 2) := by decide +kernel
theorem dX13_cutAll_226 : decode cX13_cutAll 226 = .ok (.isub, 1) := by decide +kernel
theorem dX13_cutAll_227 : decode cX13_cutAll 227 = .ok (.iconst 4, 1) := by decide +kernel
theorem dX13_cutAll_228 : decode cX13_cutAll 228 = .ok (.if_icmp .le 7, 3) := by decide +kernel
theorem dX13_cutAll_231 : decode cX13_cutAll 231 = .ok (.iconst 4, 1) := by decide +kernel
theorem dX13_cutAll_232 : decode cX13_cutAll 232 = .ok (.goto 4, 3) := by decide +kernel
theorem dX13_cutAll_235 : decode cX13_cutAll 235 = .ok (.iconst 2, 1) := by decide +kernel
theorem dX13_cutAll_236 : decode cX13_cutAll 236 = .ok (.iastore, 1) := by decide +kernel
theorem dX13_cutAll_237 : decode cX13_cutAll 237 = .ok (.goto 28, 3) := by decide +kernel
theorem dX13_cutAll_240 : decode cX13_cutAll 240 = .ok (.iload_n 3, 1) := by decide +kernel
theorem dX13_cutAll_241 : decode cX13_cutAll 241 = .ok (.i2l, 1) := by decide +kernel
theorem dX13_cutAll_242 : decode cX13_cutAll 242 = .ok (.lstore 5, 2) := by decide +kernel
theorem dX13_cutAll_244 : decode cX13_cutAll 244 = .ok (.aload_n 0, 1) := by decide +kernel
theorem dX13_cutAll_245 : decode cX13_cutAll 245 = .ok (.getfield 24, 3) := by decide +kernel
theorem dX13_cutAll_248 : decode cX13_cutAll 248 = .ok (.iload_n 1, 1) := by decide +kernel
theorem dX13_cutAll_249 : decode cX13_cutAll 249 = .ok (.iload_n 3, 1) := by decide +kernel
theorem dX13_cutAll_250 : decode cX13_cutAll 250 = .ok (.invokestatic 187, 3) := by decide +kernel
theorem dX13_cutAll_253 : decode cX13_cutAll 253 = .ok (.ifCond .eq 7, 3) := by decide +kernel
theorem dX13_cutAll_256 : decode cX13_cutAll 256 = .ok (.iconst 3, 1) := by decide +kernel
theorem dX13_cutAll_257 : decode cX13_cutAll 257 = .ok (.goto 4, 3) := by decide +kernel
theorem dX13_cutAll_260 : decode cX13_cutAll 260 = .ok (.iconst 4, 1) := by decide +kernel
theorem dX13_cutAll_261 : decode cX13_cutAll 261 = .ok (.iastore, 1) := by decide +kernel
theorem dX13_cutAll_262 : decode cX13_cutAll 262 = .ok (.iinc 2 1, 3) := by decide +kernel
theorem dX13_cutAll_265 : decode cX13_cutAll 265 = .ok (.aload_n 0, 1) := by decide +kernel
theorem dX13_cutAll_266 : decode cX13_cutAll 266 = .ok (.getfield 30, 3) := by decide +kernel
theorem dX13_cutAll_269 : decode cX13_cutAll 269 = .ok (.iload_n 1, 1) := by decide +kernel
theorem dX13_cutAll_270 : decode cX13_cutAll 270 = .ok (.lload 5, 2) := by decide +kernel
theorem dX13_cutAll_272 : decode cX13_cutAll 272 = .ok (.lastore, 1) := by decide +kernel
theorem dX13_cutAll_273 : decode cX13_cutAll 273 = .ok (.iinc 1 1, 3) := by decide +kernel
theorem dX13_cutAll_276 : decode cX13_cutAll 276 = .ok (.goto (-259), 3) := by decide +kernel
theorem dX13_cutAll_279 : decode cX13_cutAll 279 = .ok (.aload_n 0, 1) := by decide +kernel
theorem dX13_cutAll_280 : decode cX13_cutAll 280 = .ok (.getfield 24, 3) := by decide +kernel
theorem dX13_cutAll_283 : decode cX13_cutAll 283 = .ok (.iload_n 1, 1) := by decide +kernel
theorem dX13_cutAll_284 : decode cX13_cutAll 284 = .ok (.iconst 0, 1) := by decide +kernel
theorem dX13_cutAll_285 : decode cX13_cutAll 285 = .ok (.iastore, 1) := by decide +kernel
theorem dX13_cutAll_286 : decode cX13_cutAll 286 = .ok (.aload_n 0, 1) := by decide +kernel
theorem dX13_cutAll_287 : decode cX13_cutAll 287 = .ok (.getfield 27, 3) := by decide +kernel
theorem dX13_cutAll_290 : decode cX13_cutAll 290 = .ok (.iload_n 1, 1) := by decide +kernel
theorem dX13_cutAll_291 : decode cX13_cutAll 291 = .ok (.aload_n 0, 1) := by decide +kernel
theorem dX13_cutAll_292 : decode cX13_cutAll 292 = .ok (.getfield 171, 3) := by decide +kernel
theorem dX13_cutAll_295 : decode cX13_cutAll 295 = .ok (.iastore, 1) := by decide +kernel
theorem dX13_cutAll_296 : decode cX13_cutAll 296 = .ok (.aload_n 0, 1) := by decide +kernel
theorem dX13_cutAll_297 : decode cX13_cutAll 297 = .ok (.iconst 0, 1) := by decide +kernel
theorem dX13_cutAll_298 : decode cX13_cutAll 298 = .ok (.putfield 190, 3) := by decide +kernel
theorem dX13_cutAll_301 : decode cX13_cutAll 301 = .ok (.aload_n 0, 1) := by decide +kernel
theorem dX13_cutAll_302 : decode cX13_cutAll 302 = .ok (.iconst 0, 1) := by decide +kernel
theorem dX13_cutAll_303 : decode cX13_cutAll 303 = .ok (.putfield 193, 3) := by decide +kernel
theorem dX13_cutAll_306 : decode cX13_cutAll 306 = .ok (.return_, 1) := by decide +kernel
theorem dX13_wrong_0 : decode cX13_wrong 0 = .ok (.aload_n 0, 1) := by decide +kernel
theorem dX13_wrong_1 : decode cX13_wrong 1 = .ok (.getfield 193, 3) := by decide +kernel
theorem dX13_wrong_4 : decode cX13_wrong 4 = .ok (.ifCond .ne 21, 3) := by decide +kernel
theorem dX13_wrong_7 : decode cX13_wrong 7 = .ok (.aload_n 0, 1) := by decide +kernel
theorem dX13_wrong_8 : decode cX13_wrong 8 = .ok (.iload_n 1, 1) := by decide +kernel
theorem dX13_wrong_9 : decode cX13_wrong 9 = .ok (.bipush 16, 2) := by decide +kernel
theorem dX13_wrong_11 : decode cX13_wrong 11 = .ok (.aload_n 0, 1) := by decide +kernel
theorem dX13_wrong_12 : decode cX13_wrong 12 = .ok (.getfield 27, 3) := by decide +kernel
theorem dX13_wrong_15 : decode cX13_wrong 15 = .ok (.aload_n 0, 1) := by decide +kernel
theorem dX13_wrong_16 : decode cX13_wrong 16 = .ok (.getfield 190, 3) := by decide +kernel
theorem dX13_wrong_19 : decode cX13_wrong 19 = .ok (.iaload, 1) := by decide +kernel
theorem dX13_wrong_20 : decode cX13_wrong 20 = .ok (.imul, 1) := by decide +kernel
theorem dX13_wrong_21 : decode cX13_wrong 21 = .ok (.iadd, 1) := by decide +kernel
theorem dX13_wrong_22 : decode cX13_wrong 22 = .ok (.putfield 193, 3) := by decide +kernel
theorem dX13_wrong_25 : decode cX13_wrong 25 = .ok (.return_, 1) := by decide +kernel
theorem dX13_isSign_0 : decode cX13_isSign 0 = .ok (.aload_n 0, 1) := by decide +kernel
theorem dX13_isSign_1 : decode cX13_isSign 1 = .ok (.getfield 193, 3) := by decide +kernel
theorem dX13_isSign_4 : decode cX13_isSign 4 = .ok (.ifCond .ne 35, 3) := by decide +kernel
theorem dX13_isSign_7 : decode cX13_isSign 7 = .ok (.aload_n 0, 1) := by decide +kernel
theorem dX13_isSign_8 : decode cX13_isSign 8 = .ok (.getfield 24, 3) := by decide +kernel
theorem dX13_isSign_11 : decode cX13_isSign 11 = .ok (.aload_n 0, 1) := by decide +kernel
theorem dX13_isSign_12 : decode cX13_isSign 12 = .ok (.getfield 190, 3) := by decide +kernel
theorem dX13_isSign_15 : decode cX13_isSign 15 = .ok (.iaload, 1) := by decide +kernel
theorem dX13_isSign_16 : decode cX13_isSign 16 = .ok (.iconst 3, 1) := by decide +kernel
theorem dX13_isSign_17 : decode cX13_isSign 17 = .ok (.if_icmp .ne 22, 3) := by decide +kernel
theorem dX13_isSign_20 : decode cX13_isSign 20 = .ok (.aload_n 0, 1) := by decide +kernel
theorem dX13_isSign_21 : decode cX13_isSign 21 = .ok (.getfield 30, 3) := by decide +kernel
theorem dX13_isSign_24 : decode cX13_isSign 24 = .ok (.aload_n 0, 1) := by decide +kernel
theorem dX13_isSign_25 : decode cX13_isSign 25 = .ok (.getfield 190, 3) := by decide +kernel
theorem dX13_isSign_28 : decode cX13_isSign 28 = .ok (.laload, 1) := by decide +kernel
theorem dX13_isSign_29 : decode cX13_isSign 29 = .ok (.iload_n 1, 1) := by decide +kernel
theorem dX13_isSign_30 : decode cX13_isSign 30 = .ok (.i2l, 1) := by decide +kernel
theorem dX13_isSign_31 : decode cX13_isSign 31 = .ok (.lcmp, 1) := by decide +kernel
theorem dX13_isSign_32 : decode cX13_isSign 32 = .ok (.ifCond .ne 7, 3) := by decide +kernel
theorem dX13_isSign_35 : decode cX13_isSign 35 = .ok (.iconst 1, 1) := by decide +kernel
theorem dX13_isSign_36 : decode cX13_isSign 36 = .ok (.goto 4, 3) := by decide +kernel
theorem dX13_isSign_39 : decode cX13_isSign 39 = .ok (.iconst 0, 1) := by decide +kernel
theorem dX13_isSign_40 : decode cX13_isSign 40 = .ok (.ireturn, 1) := by decide +kernel
theorem dX13_isWord_0 : decode cX13_isWord 0 = .ok (.aload_n 0, 1) := by decide +kernel
theorem dX13_isWord_1 : decode cX13_isWord 1 = .ok (.getfield 193, 3) := by decide +kernel
theorem dX13_isWord_4 : decode cX13_isWord 4 = .ok (.ifCond .ne 39, 3) := by decide +kernel
theorem dX13_isWord_7 : decode cX13_isWord 7 = .ok (.aload_n 0, 1) := by decide +kernel
theorem dX13_isWord_8 : decode cX13_isWord 8 = .ok (.getfield 24, 3) := by decide +kernel
theorem dX13_isWord_11 : decode cX13_isWord 11 = .ok (.aload_n 0, 1) := by decide +kernel
theorem dX13_isWord_12 : decode cX13_isWord 12 = .ok (.getfield 190, 3) := by decide +kernel
theorem dX13_isWord_15 : decode cX13_isWord 15 = .ok (.iaload, 1) := by decide +kernel
theorem dX13_isWord_16 : decode cX13_isWord 16 = .ok (.iconst 1, 1) := by decide +kernel
theorem dX13_isWord_17 : decode cX13_isWord 17 = .ok (.if_icmp .ne 26, 3) := by decide +kernel
theorem dX13_isWord_20 : decode cX13_isWord 20 = .ok (.aload_n 0, 1) := by decide +kernel
theorem dX13_isWord_21 : decode cX13_isWord 21 = .ok (.getfield 30, 3) := by decide +kernel
theorem dX13_isWord_24 : decode cX13_isWord 24 = .ok (.aload_n 0, 1) := by decide +kernel
theorem dX13_isWord_25 : decode cX13_isWord 25 = .ok (.getfield 190, 3) := by decide +kernel
theorem dX13_isWord_28 : decode cX13_isWord 28 = .ok (.laload, 1) := by decide +kernel
theorem dX13_isWord_29 : decode cX13_isWord 29 = .ok (.aload_n 0, 1) := by decide +kernel
theorem dX13_isWord_30 : decode cX13_isWord 30 = .ok (.getfield 96, 3) := by decide +kernel
theorem dX13_isWord_33 : decode cX13_isWord 33 = .ok (.iload_n 1, 1) := by decide +kernel
theorem dX13_isWord_34 : decode cX13_isWord 34 = .ok (.laload, 1) := by decide +kernel
theorem dX13_isWord_35 : decode cX13_isWord 35 = .ok (.lcmp, 1) := by decide +kernel
theorem dX13_isWord_36 : decode cX13_isWord 36 = .ok (.ifCond .ne 7, 3) := by decide +kernel
theorem dX13_isWord_39 : decode cX13_isWord 39 = .ok (.iconst 1, 1) := by decide +kernel
theorem dX13_isWord_40 : decode cX13_isWord 40 = .ok (.goto 4, 3) := by decide +kernel
theorem dX13_isWord_43 : decode cX13_isWord 43 = .ok (.iconst 0, 1) := by decide +kernel
theorem dX13_isWord_44 : decode cX13_isWord 44 = .ok (.ireturn, 1) := by decide +kernel
theorem dX13_takeSign_0 : decode cX13_takeSign 0 = .ok (.aload_n 0, 1) := by decide +kernel
theorem dX13_takeSign_1 : decode cX13_takeSign 1 = .ok (.iload_n 1, 1) := by decide +kernel
theorem dX13_takeSign_2 : decode cX13_takeSign 2 = .ok (.invokevirtual 196, 3) := by decide +kernel
theorem dX13_takeSign_5 : decode cX13_takeSign 5 = .ok (.ifCond .eq 16, 3) := by decide +kernel
theorem dX13_takeSign_8 : decode cX13_takeSign 8 = .ok (.aload_n 0, 1) := by decide +kernel
theorem dX13_takeSign_9 : decode cX13_takeSign 9 = .ok (.dup, 1) := by decide +kernel
theorem dX13_takeSign_10 : decode cX13_takeSign 10 = .ok (.getfield 190, 3) := by decide +kernel
theorem dX13_takeSign_13 : decode cX13_takeSign 13 = .ok (.iconst 1, 1) := by decide +kernel
theorem dX13_takeSign_14 : decode cX13_takeSign 14 = .ok (.iadd, 1) := by decide +kernel
theorem dX13_takeSign_15 : decode cX13_takeSign 15 = .ok (.putfield 190, 3) := by decide +kernel
theorem dX13_takeSign_18 : decode cX13_takeSign 18 = .ok (.goto 8, 3) := by decide +kernel
theorem dX13_takeSign_21 : decode cX13_takeSign 21 = .ok (.aload_n 0, 1) := by decide +kernel
theorem dX13_takeSign_22 : decode cX13_takeSign 22 = .ok (.iconst 1, 1) := by decide +kernel
theorem dX13_takeSign_23 : decode cX13_takeSign 23 = .ok (.invokevirtual 199, 3) := by decide +kernel
theorem dX13_takeSign_26 : decode cX13_takeSign 26 = .ok (.return_, 1) := by decide +kernel
theorem dX13_hasSign_0 : decode cX13_hasSign 0 = .ok (.aload_n 0, 1) := by decide +kernel
theorem dX13_hasSign_1 : decode cX13_hasSign 1 = .ok (.iload_n 1, 1) := by decide +kernel
theorem dX13_hasSign_2 : decode cX13_hasSign 2 = .ok (.invokevirtual 196, 3) := by decide +kernel
theorem dX13_hasSign_5 : decode cX13_hasSign 5 = .ok (.istore_n 2, 1) := by decide +kernel
theorem dX13_hasSign_6 : decode cX13_hasSign 6 = .ok (.aload_n 0, 1) := by decide +kernel
theorem dX13_hasSign_7 : decode cX13_hasSign 7 = .ok (.dup, 1) := by decide +kernel
theorem dX13_hasSign_8 : decode cX13_hasSign 8 = .ok (.getfield 190, 3) := by decide +kernel
theorem dX13_hasSign_11 : decode cX13_hasSign 11 = .ok (.iload_n 2, 1) := by decide +kernel
theorem dX13_hasSign_12 : decode cX13_hasSign 12 = .ok (.ifCond .eq 7, 3) := by decide +kernel
theorem dX13_hasSign_15 : decode cX13_hasSign 15 = .ok (.iconst 1, 1) := by decide +kernel
theorem dX13_hasSign_16 : decode cX13_hasSign 16 = .ok (.goto 4, 3) := by decide +kernel
theorem dX13_hasSign_19 : decode cX13_hasSign 19 = .ok (.iconst 0, 1) := by decide +kernel
theorem dX13_hasSign_20 : decode cX13_hasSign 20 = .ok (.iadd, 1) := by decide +kernel
theorem dX13_hasSign_21 : decode cX13_hasSign 21 = .ok (.putfield 190, 3) := by decide +kernel
theorem dX13_hasSign_24 : decode cX13_hasSign 24 = .ok (.iload_n 2, 1) := by decide +kernel
theorem dX13_hasSign_25 : decode cX13_hasSign 25 = .ok (.ireturn, 1) := by decide +kernel
theorem dX13_hasWord_0 : decode cX13_hasWord 0 = .ok (.aload_n 0, 1) := by decide +kernel
theorem dX13_hasWord_1 : decode cX13_hasWord 1 = .ok (.iload_n 1, 1) := by decide +kernel
theorem dX13_hasWord_2 : decode cX13_hasWord 2 = .ok (.invokevirtual 202, 3) := by decide +kernel
theorem dX13_hasWord_5 : decode cX13_hasWord 5 = .ok (.istore_n 2, 1) := by decide +kernel
theorem dX13_hasWord_6 : decode cX13_hasWord 6 = .ok (.aload_n 0, 1) := by decide +kernel
theorem dX13_hasWord_7 : decode cX13_hasWord 7 = .ok (.dup, 1) := by decide +kernel
theorem dX13_hasWord_8 : decode cX13_hasWord 8 = .ok (.getfield 190, 3) := by decide +kernel
theorem dX13_hasWord_11 : decode cX13_hasWord 11 = .ok (.iload_n 2, 1) := by decide +kernel
theorem dX13_hasWord_12 : decode cX13_hasWord 12 = .ok (.ifCond .eq 7, 3) := by decide +kernel
theorem dX13_hasWord_15 : decode cX13_hasWord 15 = .ok (.iconst 1, 1) := by decide +kernel
theorem dX13_hasWord_16 : decode cX13_hasWord 16 = .ok (.goto 4, 3) := by decide +kernel
theorem dX13_hasWord_19 : decode cX13_hasWord 19 = .ok (.iconst 0, 1) := by decide +kernel
theorem dX13_hasWord_20 : decode cX13_hasWord 20 = .ok (.iadd, 1) := by decide +kernel
theorem dX13_hasWord_21 : decode cX13_hasWord 21 = .ok (.putfield 190, 3) := by decide +kernel
theorem dX13_hasWord_24 : decode cX13_hasWord 24 = .ok (.iload_n 2, 1) := by decide +kernel
theorem dX13_hasWord_25 : decode cX13_hasWord 25 = .ok (.ireturn, 1) := by decide +kernel
theorem dX13_takeWord_0 : decode cX13_takeWord 0 = .ok (.aload_n 0, 1) := by decide +kernel
theorem dX13_takeWord_1 : decode cX13_takeWord 1 = .ok (.iload_n 1, 1) := by decide +kernel
theorem dX13_takeWord_2 : decode cX13_takeWord 2 = .ok (.invokevirtual 205, 3) := by decide +kernel
theorem dX13_takeWord_5 : decode cX13_takeWord 5 = .ok (.ifCond .ne 8, 3) := by decide +kernel
theorem dX13_takeWord_8 : decode cX13_takeWord 8 = .ok (.aload_n 0, 1) := by decide +kernel
theorem dX13_takeWord_9 : decode cX13_takeWord 9 = .ok (.iconst 1, 1) := by decide +kernel
theorem dX13_takeWord_10 : decode cX13_takeWord 10 = .ok (.invokevirtual 199, 3) := by decide +kernel
theorem dX13_takeWord_13 : decode cX13_takeWord 13 = .ok (.return_, 1) := by decide +kernel
theorem dX13_within_0 : decode cX13_within 0 = .ok (.iload_n 0, 1) := by decide +kernel
theorem dX13_within_1 : decode cX13_within 1 = .ok (.iload_n 1, 1) := by decide +kernel
theorem dX13_within_2 : decode cX13_within 2 = .ok (.if_icmp .lt 12, 3) := by decide +kernel
theorem dX13_within_5 : decode cX13_within 5 = .ok (.iload_n 0, 1) := by decide +kernel
theorem dX13_within_6 : decode cX13_within 6 = .ok (.iload_n 2, 1) := by decide +kernel
theorem dX13_within_7 : decode cX13_within 7 = .ok (.if_icmp .gt 7, 3) := by decide +kernel
theorem dX13_within_10 : decode cX13_within 10 = .ok (.iconst 1, 1) := by decide +kernel
theorem dX13_within_11 : decode cX13_within 11 = .ok (.goto 4, 3) := by decide +kernel
theorem dX13_within_14 : decode cX13_within 14 = .ok (.iconst 0, 1) := by decide +kernel
theorem dX13_within_15 : decode cX13_within 15 = .ok (.ireturn, 1) := by decide +kernel
theorem dX13_standsAsAlways_0 : decode cX13_standsAsAlways 0 = .ok (.iconst 0, 1) := by decide +kernel
theorem dX13_standsAsAlways_1 : decode cX13_standsAsAlways 1 = .ok (.istore_n 2, 1) := by decide +kernel
theorem dX13_standsAsAlways_2 : decode cX13_standsAsAlways 2 = .ok (.iload_n 2, 1) := by decide +kernel
theorem dX13_standsAsAlways_3 : decode cX13_standsAsAlways 3 = .ok (.bipush 110, 2) := by decide +kernel
theorem dX13_standsAsAlways_5 : decode cX13_standsAsAlways 5 = .ok (.if_icmp .ge 18, 3) := by decide +kernel
theorem dX13_standsAsAlways_8 : decode cX13_standsAsAlways 8 = .ok (.aload_n 0, 1) := by decide +kernel
theorem dX13_standsAsAlways_9 : decode cX13_standsAsAlways 9 = .ok (.getfield 99, 3) := by decide +kernel
theorem dX13_standsAsAlways_12 : decode cX13_standsAsAlways 12 = .ok (.iload_n 1, 1) := by decide +kernel
theorem dX13_standsAsAlways_13 : decode cX13_standsAsAlways 13 = .ok (.iload_n 2, 1) := by decide +kernel
theorem dX13_standsAsAlways_14 : decode cX13_standsAsAlways 14 = .ok (.iadd, 1) := by decide +kernel
theorem dX13_standsAsAlways_15 : decode cX13_standsAsAlways 15 = .ok (.iconst 0, 1) := by decide +kernel
theorem dX13_standsAsAlways_16 : decode cX13_standsAsAlways 16 = .ok (.iastore, 1) := by decide +kernel
theorem dX13_standsAsAlways_17 : decode cX13_standsAsAlways 17 = .ok (.iinc 2 1, 3) := by decide +kernel
theorem dX13_standsAsAlways_20 : decode cX13_standsAsAlways 20 = .ok (.goto (-18), 3) := by decide +kernel
theorem dX13_standsAsAlways_23 : decode cX13_standsAsAlways 23 = .ok (.aload_n 0, 1) := by decide +kernel
theorem dX13_standsAsAlways_24 : decode cX13_standsAsAlways 24 = .ok (.getfield 99, 3) := by decide +kernel
theorem dX13_standsAsAlways_27 : decode cX13_standsAsAlways 27 = .ok (.iload_n 1, 1) := by decide +kernel
theorem dX13_standsAsAlways_28 : decode cX13_standsAsAlways 28 = .ok (.iconst 5, 1) := by decide +kernel
theorem dX13_standsAsAlways_29 : decode cX13_standsAsAlways 29 = .ok (.iadd, 1) := by decide +kernel
theorem dX13_standsAsAlways_30 : decode cX13_standsAsAlways 30 = .ok (.iconst (-1), 1) := by decide +kernel
theorem dX13_standsAsAlways_31 : decode cX13_standsAsAlways 31 = .ok (.iastore, 1) := by decide +kernel
theorem dX13_standsAsAlways_32 : decode cX13_standsAsAlways 32 = .ok (.aload_n 0, 1) := by decide +kernel
theorem dX13_standsAsAlways_33 : decode cX13_standsAsAlways 33 = .ok (.getfield 99, 3) := by decide +kernel
theorem dX13_standsAsAlways_36 : decode cX13_standsAsAlways 36 = .ok (.iload_n 1, 1) := by decide +kernel
theorem dX13_standsAsAlways_37 : decode cX13_standsAsAlways 37 = .ok (.iconst 5, 1) := by decide +kernel
theorem dX13_standsAsAlways_38 : decode cX13_standsAsAlways 38 = .ok (.iadd, 1) := by decide +kernel
theorem dX13_standsAsAlways_39 : decode cX13_standsAsAlways 39 = .ok (.iconst 1, 1) := by decide +kernel
theorem dX13_standsAsAlways_40 : decode cX13_standsAsAlways 40 = .ok (.iadd, 1) := by decide +kernel
theorem dX13_standsAsAlways_41 : decode cX13_standsAsAlways 41 = .ok (.iconst (-1), 1) := by decide +kernel
theorem dX13_standsAsAlways_42 : decode cX13_standsAsAlways 42 = .ok (.iastore, 1) := by decide +kernel
theorem dX13_standsAsAlways_43 : decode cX13_standsAsAlways 43 = .ok (.return_, 1) := by decide +kernel
theorem dX13_takeNumber_0 : decode cX13_takeNumber 0 = .ok (.aload_n 0, 1) := by decide +kernel
theorem dX13_takeNumber_1 : decode cX13_takeNumber 1 = .ok (.getfield 193, 3) := by decide +kernel
theorem dX13_takeNumber_4 : decode cX13_takeNumber 4 = .ok (.ifCond .ne 24, 3) := by decide +kernel
theorem dX13_takeNumber_7 : decode cX13_takeNumber 7 = .ok (.aload_n 0, 1) := by decide +kernel
theorem dX13_takeNumber_8 : decode cX13_takeNumber 8 = .ok (.getfield 24, 3) := by decide +kernel
theorem dX13_takeNumber_11 : decode cX13_takeNumber 11 = .ok (.aload_n 0, 1) := by decide +kernel
theorem dX13_takeNumber_12 : decode cX13_takeNumber 12 = .ok (.getfield 190, 3) := by decide +kernel
theorem dX13_takeNumber_15 : decode cX13_takeNumber 15 = .ok (.iaload, 1) := by decide +kernel
theorem dX13_takeNumber_16 : decode cX13_takeNumber 16 = .ok (.iconst 2, 1) := by decide +kernel
theorem dX13_takeNumber_17 : decode cX13_takeNumber 17 = .ok (.if_icmp .eq 11, 3) := by decide +kernel
theorem dX13_takeNumber_20 : decode cX13_takeNumber 20 = .ok (.aload_n 0, 1) := by decide +kernel
theorem dX13_takeNumber_21 : decode cX13_takeNumber 21 = .ok (.iconst 1, 1) := by decide +kernel
theorem dX13_takeNumber_22 : decode cX13_takeNumber 22 = .ok (.invokevirtual 199, 3) := by decide +kernel
theorem dX13_takeNumber_25 : decode cX13_takeNumber 25 = .ok (.goto 45, 3) := by decide +kernel
theorem dX13_takeNumber_28 : decode cX13_takeNumber 28 = .ok (.aload_n 0, 1) := by decide +kernel
theorem dX13_takeNumber_29 : decode cX13_takeNumber 29 = .ok (.getfield 193, 3) := by decide +kernel
theorem dX13_takeNumber_32 : decode cX13_takeNumber 32 = .ok (.ifCond .ne 38, 3) := by decide +kernel
theorem dX13_takeNumber_35 : decode cX13_takeNumber 35 = .ok (.aload_n 0, 1) := by decide +kernel
theorem dX13_takeNumber_36 : decode cX13_takeNumber 36 = .ok (.getfield 30, 3) := by decide +kernel
theorem dX13_takeNumber_39 : decode cX13_takeNumber 39 = .ok (.aload_n 0, 1) := by decide +kernel
theorem dX13_takeNumber_40 : decode cX13_takeNumber 40 = .ok (.getfield 190, 3) := by decide +kernel
theorem dX13_takeNumber_43 : decode cX13_takeNumber 43 = .ok (.laload, 1) := by decide +kernel
theorem dX13_takeNumber_44 : decode cX13_takeNumber 44 = .ok (.iload_n 1, 1) := by decide +kernel
theorem dX13_takeNumber_45 : decode cX13_takeNumber 45 = .ok (.i2l, 1) := by decide +kernel
theorem dX13_takeNumber_46 : decode cX13_takeNumber 46 = .ok (.lcmp, 1) := by decide +kernel
theorem dX13_takeNumber_47 : decode cX13_takeNumber 47 = .ok (.ifCond .lt 18, 3) := by decide +kernel
theorem dX13_takeNumber_50 : decode cX13_takeNumber 50 = .ok (.aload_n 0, 1) := by decide +kernel
theorem dX13_takeNumber_51 : decode cX13_takeNumber 51 = .ok (.getfield 30, 3) := by decide +kernel
theorem dX13_takeNumber_54 : decode cX13_takeNumber 54 = .ok (.aload_n 0, 1) := by decide +kernel
theorem dX13_takeNumber_55 : decode cX13_takeNumber 55 = .ok (.getfield 190, 3) := by decide +kernel
theorem dX13_takeNumber_58 : decode cX13_takeNumber 58 = .ok (.laload, 1) := by decide +kernel
theorem dX13_takeNumber_59 : decode cX13_takeNumber 59 = .ok (.iload_n 2, 1) := by decide +kernel
theorem dX13_takeNumber_60 : decode cX13_takeNumber 60 = .ok (.i2l, 1) := by decide +kernel
theorem dX13_takeNumber_61 : decode cX13_takeNumber 61 = .ok (.lcmp, 1) := by decide +kernel
theorem dX13_takeNumber_62 : decode cX13_takeNumber 62 = .ok (.ifCond .le 8, 3) := by decide +kernel
theorem dX13_takeNumber_65 : decode cX13_takeNumber 65 = .ok (.aload_n 0, 1) := by decide +kernel
theorem dX13_takeNumber_66 : decode cX13_takeNumber 66 = .ok (.iconst 4, 1) := by decide +kernel
theorem dX13_takeNumber_67 : decode cX13_takeNumber 67 = .ok (.invokevirtual 199, 3) := by decide +kernel
theorem dX13_takeNumber_70 : decode cX13_takeNumber 70 = .ok (.aload_n 0, 1) := by decide +kernel
theorem dX13_takeNumber_71 : decode cX13_takeNumber 71 = .ok (.getfield 193, 3) := by decide +kernel
theorem dX13_takeNumber_74 : decode cX13_takeNumber 74 = .ok (.ifCond .le 5, 3) := by decide +kernel
theorem dX13_takeNumber_77 : decode cX13_takeNumber 77 = .ok (.iconst 0, 1) := by decide +kernel
theorem dX13_takeNumber_78 : decode cX13_takeNumber 78 = .ok (.ireturn, 1) := by decide +kernel
theorem dX13_takeNumber_79 : decode cX13_takeNumber 79 = .ok (.aload_n 0, 1) := by decide +kernel
theorem dX13_takeNumber_80 : decode cX13_takeNumber 80 = .ok (.dup, 1) := by decide +kernel
theorem dX13_takeNumber_81 : decode cX13_takeNumber 81 = .ok (.getfield 190, 3) := by decide +kernel
theorem dX13_takeNumber_84 : decode cX13_takeNumber 84 = .ok (.iconst 1, 1) := by decide +kernel
theorem dX13_takeNumber_85 : decode cX13_takeNumber 85 = .ok (.iadd, 1) := by decide +kernel
theorem dX13_takeNumber_86 : decode cX13_takeNumber 86 = .ok (.putfield 190, 3) := by decide +kernel
theorem dX13_takeNumber_89 : decode cX13_takeNumber 89 = .ok (.aload_n 0, 1) := by decide +kernel
theorem dX13_takeNumber_90 : decode cX13_takeNumber 90 = .ok (.getfield 30, 3) := by decide +kernel
theorem dX13_takeNumber_93 : decode cX13_takeNumber 93 = .ok (.aload_n 0, 1) := by decide +kernel
theorem dX13_takeNumber_94 : decode cX13_takeNumber 94 = .ok (.getfield 190, 3) := by decide +kernel
theorem dX13_takeNumber_97 : decode cX13_takeNumber 97 = .ok (.iconst 1, 1) := by decide +kernel
theorem dX13_takeNumber_98 : decode cX13_takeNumber 98 = .ok (.isub, 1) := by decide +kernel
theorem dX13_takeNumber_99 : decode cX13_takeNumber 99 = .ok (.laload, 1) := by decide +kernel
theorem dX13_takeNumber_100 : decode cX13_takeNumber 100 = .ok (.l2i, 1) := by decide +kernel
theorem dX13_takeNumber_101 : decode cX13_takeNumber 101 = .ok (.ireturn, 1) := by decide +kernel
theorem dX13_takeAfter_0 : decode cX13_takeAfter 0 = .ok (.aload_n 0, 1) := by decide +kernel
theorem dX13_takeAfter_1 : decode cX13_takeAfter 1 = .ok (.iload_n 1, 1) := by decide +kernel
theorem dX13_takeAfter_2 : decode cX13_takeAfter 2 = .ok (.invokevirtual 208, 3) := by decide +kernel
theorem dX13_takeAfter_5 : decode cX13_takeAfter 5 = .ok (.aload_n 0, 1) := by decide +kernel
theorem dX13_takeAfter_6 : decode cX13_takeAfter 6 = .ok (.iload_n 2, 1) := by decide +kernel
theorem dX13_takeAfter_7 : decode cX13_takeAfter 7 = .ok (.iload_n 3, 1) := by decide +kernel
theorem dX13_takeAfter_8 : decode cX13_takeAfter 8 = .ok (.invokevirtual 211, 3) := by decide +kernel
theorem dX13_takeAfter_11 : decode cX13_takeAfter 11 = .ok (.ireturn, 1) := by decide +kernel
theorem dX13_wordHere_0 : decode cX13_wordHere 0 = .ok (.iconst (-1), 1) := by decide +kernel
theorem dX13_wordHere_1 : decode cX13_wordHere 1 = .ok (.istore_n 3, 1) := by decide +kernel
theorem dX13_wordHere_2 : decode cX13_wordHere 2 = .ok (.iconst 0, 1) := by decide +kernel
theorem dX13_wordHere_3 : decode cX13_wordHere 3 = .ok (.istore 4, 2) := by decide +kernel
theorem dX13_wordHere_5 : decode cX13_wordHere 5 = .ok (.iload 4, 2) := by decide +kernel
theorem dX13_wordHere_7 : decode cX13_wordHere 7 = .ok (.iload_n 2, 1) := by decide +kernel
theorem dX13_wordHere_8 : decode cX13_wordHere 8 = .ok (.if_icmp .ge 27, 3) := by decide +kernel
theorem dX13_wordHere_11 : decode cX13_wordHere 11 = .ok (.aload_n 0, 1) := by decide +kernel
theorem dX13_wordHere_12 : decode cX13_wordHere 12 = .ok (.iload_n 1, 1) := by decide +kernel
theorem dX13_wordHere_13 : decode cX13_wordHere 13 = .ok (.iload 4, 2) := by decide +kernel
theorem dX13_wordHere_15 : decode cX13_wordHere 15 = .ok (.iadd, 1) := by decide +kernel
theorem dX13_wordHere_16 : decode cX13_wordHere 16 = .ok (.invokevirtual 202, 3) := by decide +kernel
theorem dX13_wordHere_19 : decode cX13_wordHere 19 = .ok (.ifCond .eq 8, 3) := by decide +kernel
theorem dX13_wordHere_22 : decode cX13_wordHere 22 = .ok (.iload 4, 2) := by decide +kernel
theorem dX13_wordHere_24 : decode cX13_wordHere 24 = .ok (.goto 4, 3) := by decide +kernel
theorem dX13_wordHere_27 : decode cX13_wordHere 27 = .ok (.iload_n 3, 1) := by decide +kernel
theorem dX13_wordHere_28 : decode cX13_wordHere 28 = .ok (.istore_n 3, 1) := by decide +kernel
theorem dX13_wordHere_29 : decode cX13_wordHere 29 = .ok (.iinc 4 1, 3) := by decide +kernel
theorem dX13_wordHere_32 : decode cX13_wordHere 32 = .ok (.goto (-27), 3) := by decide +kernel
theorem dX13_wordHere_35 : decode cX13_wordHere 35 = .ok (.iload_n 3, 1) := by decide +kernel
theorem dX13_wordHere_36 : decode cX13_wordHere 36 = .ok (.ireturn, 1) := by decide +kernel
theorem dX13_isName_0 : decode cX13_isName 0 = .ok (.aload_n 0, 1) := by decide +kernel
theorem dX13_isName_1 : decode cX13_isName 1 = .ok (.getfield 193, 3) := by decide +kernel
theorem dX13_isName_4 : decode cX13_isName 4 = .ok (.ifCond .ne 30, 3) := by decide +kernel
theorem dX13_isName_7 : decode cX13_isName 7 = .ok (.aload_n 0, 1) := by decide +kernel
theorem dX13_isName_8 : decode cX13_isName 8 = .ok (.getfield 24, 3) := by decide +kernel
theorem dX13_isName_11 : decode cX13_isName 11 = .ok (.aload_n 0, 1) := by decide +kernel
theorem dX13_isName_12 : decode cX13_isName 12 = .ok (.getfield 190, 3) := by decide +kernel
theorem dX13_isName_15 : decode cX13_isName 15 = .ok (.iaload, 1) := by decide +kernel
theorem dX13_isName_16 : decode cX13_isName 16 = .ok (.iconst 1, 1) := by decide +kernel
theorem dX13_isName_17 : decode cX13_isName 17 = .ok (.if_icmp .ne 17, 3) := by decide +kernel
theorem dX13_isName_20 : decode cX13_isName 20 = .ok (.aload_n 0, 1) := by decide +kernel
theorem dX13_isName_21 : decode cX13_isName 21 = .ok (.iconst 0, 1) := by decide +kernel
theorem dX13_isName_22 : decode cX13_isName 22 = .ok (.bipush 27, 2) := by decide +kernel
theorem dX13_isName_24 : decode cX13_isName 24 = .ok (.invokevirtual 215, 3) := by decide +kernel
theorem dX13_isName_27 : decode cX13_isName 27 = .ok (.ifCond .ge 7, 3) := by decide +kernel
theorem dX13_isName_30 : decode cX13_isName 30 = .ok (.iconst 1, 1) := by decide +kernel
theorem dX13_isName_31 : decode cX13_isName 31 = .ok (.goto 4, 3) := by decide +kernel
theorem dX13_isName_34 : decode cX13_isName 34 = .ok (.iconst 0, 1) := by decide +kernel
theorem dX13_isName_35 : decode cX13_isName 35 = .ok (.ireturn, 1) := by decide +kernel
theorem dX13_find_0 : decode cX13_find 0 = .ok (.iconst 0, 1) := by decide +kernel
theorem dX13_find_1 : decode cX13_find 1 = .ok (.istore_n 2, 1) := by decide +kernel
theorem dX13_find_2 : decode cX13_find 2 = .ok (.iload_n 2, 1) := by decide +kernel
theorem dX13_find_3 : decode cX13_find 3 = .ok (.aload_n 0, 1) := by decide +kernel
theorem dX13_find_4 : decode cX13_find 4 = .ok (.getfield 99, 3) := by decide +kernel
theorem dX13_find_7 : decode cX13_find 7 = .ok (.iload_n 1, 1) := by decide +kernel
theorem dX13_find_8 : decode cX13_find 8 = .ok (.ifCond .eq 8, 3) := by decide +kernel
theorem dX13_find_11 : decode cX13_find 11 = .ok (.bipush 110, 2) := by decide +kernel
theorem dX13_find_13 : decode cX13_find 13 = .ok (.goto 4, 3) := by decide +kernel
theorem dX13_find_16 : decode cX13_find 16 = .ok (.iconst 0, 1) := by decide +kernel
theorem dX13_find_17 : decode cX13_find 17 = .ok (.iconst 0, 1) := by decide +kernel
theorem dX13_find_18 : decode cX13_find 18 = .ok (.iadd, 1) := by decide +kernel
theorem dX13_find_19 : decode cX13_find 19 = .ok (.iaload, 1) := by decide +kernel
theorem dX13_find_20 : decode cX13_find 20 = .ok (.if_icmp .ge 43, 3) := by decide +kernel
theorem dX13_find_23 : decode cX13_find 23 = .ok (.iload_n 1, 1) := by decide +kernel
theorem dX13_find_24 : decode cX13_find 24 = .ok (.ifCond .eq 12, 3) := by decide +kernel
theorem dX13_find_27 : decode cX13_find 27 = .ok (.aload_n 0, 1) := by decide +kernel
theorem dX13_find_28 : decode cX13_find 28 = .ok (.getfield 111, 3) := by decide +kernel
theorem dX13_find_31 : decode cX13_find 31 = .ok (.iload_n 2, 1) := by decide +kernel
theorem dX13_find_32 : decode cX13_find 32 = .ok (.laload, 1) := by decide +kernel
theorem dX13_find_33 : decode cX13_find 33 = .ok (.goto 9, 3) := by decide +kernel
theorem dX13_find_36 : decode cX13_find 36 = .ok (.aload_n 0, 1) := by decide +kernel
theorem dX13_find_37 : decode cX13_find 37 = .ok (.getfield 108, 3) := by decide +kernel
theorem dX13_find_40 : decode cX13_find 40 = .ok (.iload_n 2, 1) := by decide +kernel
theorem dX13_find_41 : decode cX13_find 41 = .ok (.laload, 1) := by decide +kernel
theorem dX13_find_42 : decode cX13_find 42 = .ok (.aload_n 0, 1) := by decide +kernel
theorem dX13_find_43 : decode cX13_find 43 = .ok (.getfield 30, 3) := by decide +kernel
theorem dX13_find_46 : decode cX13_find 46 = .ok (.aload_n 0, 1) := by decide +kernel
theorem dX13_find_47 : decode cX13_find 47 = .ok (.getfield 190, 3) := by decide +kernel
theorem dX13_find_50 : decode cX13_find 50 = .ok (.laload, 1) := by decide +kernel
theorem dX13_find_51 : decode cX13_find 51 = .ok (.lcmp, 1) := by decide +kernel
theorem dX13_find_52 : decode cX13_find 52 = .ok (.ifCond .ne 5, 3) := by decide +kernel
theorem dX13_find_55 : decode cX13_find 55 = .ok (.iload_n 2, 1) := by decide +kernel
theorem dX13_find_56 : decode cX13_find 56 = .ok (.ireturn, 1) := by decide +kernel
theorem dX13_find_57 : decode cX13_find 57 = .ok (.iinc 2 1, 3) := by decide +kernel
theorem dX13_find_60 : decode cX13_find 60 = .ok (.goto (-58), 3) := by decide +kernel
theorem dX13_find_63 : decode cX13_find 63 = .ok (.iconst (-1), 1) := by decide +kernel
theorem dX13_find_64 : decode cX13_find 64 = .ok (.ireturn, 1) := by decide +kernel
theorem dX13_riverHere_0 : decode cX13_riverHere 0 = .ok (.aload_n 0, 1) := by decide +kernel
theorem dX13_riverHere_1 : decode cX13_riverHere 1 = .ok (.getfield 193, 3) := by decide +kernel
theorem dX13_riverHere_4 : decode cX13_riverHere 4 = .ok (.ifCond .ne 15, 3) := by decide +kernel
theorem dX13_riverHere_7 : decode cX13_riverHere 7 = .ok (.aload_n 0, 1) := by decide +kernel
theorem dX13_riverHere_8 : decode cX13_riverHere 8 = .ok (.invokevirtual 218, 3) := by decide +kernel
theorem dX13_riverHere_11 : decode cX13_riverHere 11 = .ok (.ifCond .ne 8, 3) := by decide +kernel
theorem dX13_riverHere_14 : decode cX13_riverHere 14 = .ok (.aload_n 0, 1) := by decide +kernel
theorem dX13_riverHere_15 : decode cX13_riverHere 15 = .ok (.iconst 1, 1) := by decide +kernel
theorem dX13_riverHere_16 : decode cX13_riverHere 16 = .ok (.invokevirtual 199, 3) := by decide +kernel
theorem dX13_riverHere_19 : decode cX13_riverHere 19 = .ok (.aload_n 0, 1) := by decide +kernel
theorem dX13_riverHere_20 : decode cX13_riverHere 20 = .ok (.getfield 193, 3) := by decide +kernel
theorem dX13_riverHere_23 : decode cX13_riverHere 23 = .ok (.ifCond .le 7, 3) := by decide +kernel
theorem dX13_riverHere_26 : decode cX13_riverHere 26 = .ok (.iconst (-1), 1) := by decide +kernel
theorem dX13_riverHere_27 : decode cX13_riverHere 27 = .ok (.goto 8, 3) := by decide +kernel
theorem dX13_riverHere_30 : decode cX13_riverHere 30 = .ok (.aload_n 0, 1) := by decide +kernel
theorem dX13_riverHere_31 : decode cX13_riverHere 31 = .ok (.iload_n 1, 1) := by decide +kernel
theorem dX13_riverHere_32 : decode cX13_riverHere 32 = .ok (.invokevirtual 222, 3) := by decide +kernel
theorem dX13_riverHere_35 : decode cX13_riverHere 35 = .ok (.istore_n 2, 1) := by decide +kernel
theorem dX13_riverHere_36 : decode cX13_riverHere 36 = .ok (.aload_n 0, 1) := by decide +kernel
theorem dX13_riverHere_37 : decode cX13_riverHere 37 = .ok (.getfield 193, 3) := by decide +kernel
theorem dX13_riverHere_40 : decode cX13_riverHere 40 = .ok (.ifCond .ne 12, 3) := by decide +kernel
theorem dX13_riverHere_43 : decode cX13_riverHere 43 = .ok (.iload_n 2, 1) := by decide +kernel
theorem dX13_riverHere_44 : decode cX13_riverHere 44 = .ok (.ifCond .ge 8, 3) := by decide +kernel
theorem dX13_riverHere_47 : decode cX13_riverHere 47 = .ok (.aload_n 0, 1) := by decide +kernel
theorem dX13_riverHere_48 : decode cX13_riverHere 48 = .ok (.iconst 2, 1) := by decide +kernel
theorem dX13_riverHere_49 : decode cX13_riverHere 49 = .ok (.invokevirtual 199, 3) := by decide +kernel
theorem dX13_riverHere_52 : decode cX13_riverHere 52 = .ok (.iload_n 2, 1) := by decide +kernel
theorem dX13_riverHere_53 : decode cX13_riverHere 53 = .ok (.ireturn, 1) := by decide +kernel
theorem dX13_land_0 : decode cX13_land 0 = .ok (.aload_n 0, 1) := by decide +kernel
theorem dX13_land_1 : decode cX13_land 1 = .ok (.iconst 0, 1) := by decide +kernel
theorem dX13_land_2 : decode cX13_land 2 = .ok (.putfield 1, 3) := by decide +kernel
theorem dX13_land_5 : decode cX13_land 5 = .ok (.aload_n 0, 1) := by decide +kernel
theorem dX13_land_6 : decode cX13_land 6 = .ok (.invokevirtual 226, 3) := by decide +kernel
theorem dX13_land_9 : decode cX13_land 9 = .ok (.aload_n 0, 1) := by decide +kernel
theorem dX13_land_10 : decode cX13_land 10 = .ok (.iconst 0, 1) := by decide +kernel
theorem dX13_land_11 : decode cX13_land 11 = .ok (.putfield 229, 3) := by decide +kernel
theorem dX13_land_14 : decode cX13_land 14 = .ok (.aload_n 0, 1) := by decide +kernel
theorem dX13_land_15 : decode cX13_land 15 = .ok (.iconst 0, 1) := by decide +kernel
theorem dX13_land_16 : decode cX13_land 16 = .ok (.putfield 232, 3) := by decide +kernel
theorem dX13_land_19 : decode cX13_land 19 = .ok (.aload_n 0, 1) := by decide +kernel
theorem dX13_land_20 : decode cX13_land 20 = .ok (.bipush 110, 2) := by decide +kernel
theorem dX13_land_22 : decode cX13_land 22 = .ok (.invokevirtual 160, 3) := by decide +kernel
theorem dX13_land_25 : decode cX13_land 25 = .ok (.aload_n 0, 1) := by decide +kernel
theorem dX13_land_26 : decode cX13_land 26 = .ok (.getfield 193, 3) := by decide +kernel
theorem dX13_land_29 : decode cX13_land 29 = .ok (.ifCond .ne 59, 3) := by decide +kernel
theorem dX13_land_32 : decode cX13_land 32 = .ok (.aload_n 0, 1) := by decide +kernel
theorem dX13_land_33 : decode cX13_land 33 = .ok (.getfield 24, 3) := by decide +kernel
theorem dX13_land_36 : decode cX13_land 36 = .ok (.aload_n 0, 1) := by decide +kernel
theorem dX13_land_37 : decode cX13_land 37 = .ok (.getfield 190, 3) := by decide +kernel
theorem dX13_land_40 : decode cX13_land 40 = .ok (.iaload, 1) := by decide +kernel
theorem dX13_land_41 : decode cX13_land 41 = .ok (.ifCond .eq 47, 3) := by decide +kernel
theorem dX13_land_44 : decode cX13_land 44 = .ok (.aload_n 0, 1) := by decide +kernel
theorem dX13_land_45 : decode cX13_land 45 = .ok (.iconst 0, 1) := by decide +kernel
theorem dX13_land_46 : decode cX13_land 46 = .ok (.invokevirtual 202, 3) := by decide +kernel
theorem dX13_land_49 : decode cX13_land 49 = .ok (.ifCond .eq 10, 3) := by decide +kernel
theorem dX13_land_52 : decode cX13_land 52 = .ok (.aload_n 0, 1) := by decide +kernel
theorem dX13_land_53 : decode cX13_land 53 = .ok (.invokevirtual 235, 3) := by decide +kernel
theorem dX13_land_56 : decode cX13_land 56 = .ok (.goto 23, 3) := by decide +kernel
theorem dX13_land_59 : decode cX13_land 59 = .ok (.aload_n 0, 1) := by decide +kernel
theorem dX13_land_60 : decode cX13_land 60 = .ok (.bipush 9, 2) := by decide +kernel
theorem dX13_land_62 : decode cX13_land 62 = .ok (.invokevirtual 202, 3) := by decide +kernel
theorem dX13_land_65 : decode cX13_land 65 = .ok (.ifCond .eq 10, 3) := by decide +kernel
theorem dX13_land_68 : decode cX13_land 68 = .ok (.aload_n 0, 1) := by decide +kernel
theorem dX13_land_69 : decode cX13_land 69 = .ok (.invokevirtual 238, 3) := by decide +kernel
theorem dX13_land_72 : decode cX13_land 72 = .ok (.goto 7, 3) := by decide +kernel
theorem dX13_land_75 : decode cX13_land 75 = .ok (.aload_n 0, 1) := by decide +kernel
theorem dX13_land_76 : decode cX13_land 76 = .ok (.invokevirtual 241, 3) := by decide +kernel
theorem dX13_land_79 : decode cX13_land 79 = .ok (.aload_n 0, 1) := by decide +kernel
theorem dX13_land_80 : decode cX13_land 80 = .ok (.bipush 59, 2) := by decide +kernel
theorem dX13_land_82 : decode cX13_land 82 = .ok (.invokevirtual 244, 3) := by decide +kernel
theorem dX13_land_85 : decode cX13_land 85 = .ok (.goto (-60), 3) := by decide +kernel
theorem dX13_land_88 : decode cX13_land 88 = .ok (.aload_n 0, 1) := by decide +kernel
theorem dX13_land_89 : decode cX13_land 89 = .ok (.getfield 193, 3) := by decide +kernel
theorem dX13_land_92 : decode cX13_land 92 = .ok (.ifCond .le 8, 3) := by decide +kernel
theorem dX13_land_95 : decode cX13_land 95 = .ok (.aload_n 0, 1) := by decide +kernel
theorem dX13_land_96 : decode cX13_land 96 = .ok (.getfield 193, 3) := by decide +kernel
theorem dX13_land_99 : decode cX13_land 99 = .ok (.ireturn, 1) := by decide +kernel
theorem dX13_land_100 : decode cX13_land 100 = .ok (.iconst 0, 1) := by decide +kernel
theorem dX13_land_101 : decode cX13_land 101 = .ok (.istore_n 1, 1) := by decide +kernel
theorem dX13_land_102 : decode cX13_land 102 = .ok (.iload_n 1, 1) := by decide +kernel
theorem dX13_land_103 : decode cX13_land 103 = .ok (.bipush 110, 2) := by decide +kernel
theorem dX13_land_105 : decode cX13_land 105 = .ok (.if_icmp .ge 24, 3) := by decide +kernel
theorem dX13_land_108 : decode cX13_land 108 = .ok (.aload_n 0, 1) := by decide +kernel
theorem dX13_land_109 : decode cX13_land 109 = .ok (.getfield 99, 3) := by decide +kernel
theorem dX13_land_112 : decode cX13_land 112 = .ok (.iload_n 1, 1) := by decide +kernel
theorem dX13_land_113 : decode cX13_land 113 = .ok (.aload_n 0, 1) := by decide +kernel
theorem dX13_land_114 : decode cX13_land 114 = .ok (.getfield 99, 3) := by decide +kernel
theorem dX13_land_117 : decode cX13_land 117 = .ok (.bipush 110, 2) := by decide +kernel
theorem dX13_land_119 : decode cX13_land 119 = .ok (.iload_n 1, 1) := by decide +kernel
theorem dX13_land_120 : decode cX13_land 120 = .ok (.iadd, 1) := by decide +kernel
theorem dX13_land_121 : decode cX13_land 121 = .ok (.iaload, 1) := by decide +kernel
theorem dX13_land_122 : decode cX13_land 122 = .ok (.iastore, 1) := by decide +kernel
theorem dX13_land_123 : decode cX13_land 123 = .ok (.iinc 1 1, 3) := by decide +kernel
theorem dX13_land_126 : decode cX13_land 126 = .ok (.goto (-24), 3) := by decide +kernel
theorem dX13_land_129 : decode cX13_land 129 = .ok (.iconst 0, 1) := by decide +kernel
theorem dX13_land_130 : decode cX13_land 130 = .ok (.istore_n 1, 1) := by decide +kernel
theorem dX13_land_131 : decode cX13_land 131 = .ok (.iload_n 1, 1) := by decide +kernel
theorem dX13_land_132 : decode cX13_land 132 = .ok (.aload_n 0, 1) := by decide +kernel
theorem dX13_land_133 : decode cX13_land 133 = .ok (.getfield 229, 3) := by decide +kernel
theorem dX13_land_136 : decode cX13_land 136 = .ok (.if_icmp .ge 41, 3) := by decide +kernel
theorem dX13_land_139 : decode cX13_land 139 = .ok (.aload_n 0, 1) := by decide +kernel
theorem dX13_land_140 : decode cX13_land 140 = .ok (.getfield 102, 3) := by decide +kernel
theorem dX13_land_143 : decode cX13_land 143 = .ok (.iload_n 1, 1) := by decide +kernel
theorem dX13_land_144 : decode cX13_land 144 = .ok (.aload_n 0, 1) := by decide +kernel
theorem dX13_land_145 : decode cX13_land 145 = .ok (.getfield 102, 3) := by decide +kernel
theorem dX13_land_148 : decode cX13_land 148 = .ok (.sipush 1100, 3) := by decide +kernel
theorem dX13_land_151 : decode cX13_land 151 = .ok (.iload_n 1, 1) := by decide +kernel
theorem dX13_land_152 : decode cX13_land 152 = .ok (.iadd, 1) := by decide +kernel
theorem dX13_land_153 : decode cX13_land 153 = .ok (.iaload, 1) := by decide +kernel
theorem dX13_land_154 : decode cX13_land 154 = .ok (.iastore, 1) := by decide +kernel
theorem dX13_land_155 : decode cX13_land 155 = .ok (.aload_n 0, 1) := by decide +kernel
theorem dX13_land_156 : decode cX13_land 156 = .ok (.getfield 105, 3) := by decide +kernel
theorem dX13_land_159 : decode cX13_land 159 = .ok (.iload_n 1, 1) := by decide +kernel
theorem dX13_land_160 : decode cX13_land 160 = .ok (.aload_n 0, 1) := by decide +kernel
theorem dX13_land_161 : decode cX13_land 161 = .ok (.getfield 105, 3) := by decide +kernel
theorem dX13_land_164 : decode cX13_land 164 = .ok (.sipush 1100, 3) := by decide +kernel
theorem dX13_land_167 : decode cX13_land 167 = .ok (.iload_n 1, 1) := by decide +kernel
theorem dX13_land_168 : decode cX13_land 168 = .ok (.iadd, 1) := by decide +kernel
theorem dX13_land_169 : decode cX13_land 169 = .ok (.iaload, 1) := by decide +kernel
theorem dX13_land_170 : decode cX13_land 170 = .ok (.iastore, 1) := by decide +kernel
theorem dX13_land_171 : decode cX13_land 171 = .ok (.iinc 1 1, 3) := by decide +kernel
theorem dX13_land_174 : decode cX13_land 174 = .ok (.goto (-43), 3) := by decide +kernel
theorem dX13_land_177 : decode cX13_land 177 = .ok (.iconst 0, 1) := by decide +kernel
theorem dX13_land_178 : decode cX13_land 178 = .ok (.istore_n 1, 1) := by decide +kernel
theorem dX13_land_179 : decode cX13_land 179 = .ok (.iload_n 1, 1) := by decide +kernel
theorem dX13_land_180 : decode cX13_land 180 = .ok (.bipush 6, 2) := by decide +kernel
theorem dX13_land_182 : decode cX13_land 182 = .ok (.if_icmp .ge 21, 3) := by decide +kernel
theorem dX13_land_185 : decode cX13_land 185 = .ok (.aload_n 0, 1) := by decide +kernel
theorem dX13_land_186 : decode cX13_land 186 = .ok (.getfield 108, 3) := by decide +kernel
theorem dX13_land_189 : decode cX13_land 189 = .ok (.iload_n 1, 1) := by decide +kernel
theorem dX13_land_190 : decode cX13_land 190 = .ok (.aload_n 0, 1) := by decide +kernel
theorem dX13_land_191 : decode cX13_land 191 = .ok (.getfield 111, 3) := by decide +kernel
theorem dX13_land_194 : decode cX13_land 194 = .ok (.iload_n 1, 1) := by decide +kernel
theorem dX13_land_195 : decode cX13_land 195 = .ok (.laload, 1) := by decide +kernel
theorem dX13_land_196 : decode cX13_land 196 = .ok (.lastore, 1) := by decide +kernel
theorem dX13_land_197 : decode cX13_land 197 = .ok (.iinc 1 1, 3) := by decide +kernel
theorem dX13_land_200 : decode cX13_land 200 = .ok (.goto (-21), 3) := by decide +kernel
theorem dX13_land_203 : decode cX13_land 203 = .ok (.aload_n 0, 1) := by decide +kernel
theorem dX13_land_204 : decode cX13_land 204 = .ok (.invokevirtual 164, 3) := by decide +kernel
theorem dX13_land_207 : decode cX13_land 207 = .ok (.iconst 0, 1) := by decide +kernel
theorem dX13_land_208 : decode cX13_land 208 = .ok (.ireturn, 1) := by decide +kernel
theorem dX13_lettersOf_0 : decode cX13_lettersOf 0 = .ok (.iconst 0, 1) := by decide +kernel
theorem dX13_lettersOf_1 : decode cX13_lettersOf 1 = .ok (.istore_n 2, 1) := by decide +kernel
theorem dX13_lettersOf_2 : decode cX13_lettersOf 2 = .ok (.lload_n 0, 1) := by decide +kernel
theorem dX13_lettersOf_3 : decode cX13_lettersOf 3 = .ok (.lstore_n 3, 1) := by decide +kernel
theorem dX13_lettersOf_4 : decode cX13_lettersOf 4 = .ok (.lload_n 3, 1) := by decide +kernel
theorem dX13_lettersOf_5 : decode cX13_lettersOf 5 = .ok (.lconst 0, 1) := by decide +kernel
theorem dX13_lettersOf_6 : decode cX13_lettersOf 6 = .ok (.lcmp, 1) := by decide +kernel
theorem dX13_lettersOf_7 : decode cX13_lettersOf 7 = .ok (.ifCond .le 15, 3) := by decide +kernel
theorem dX13_lettersOf_10 : decode cX13_lettersOf 10 = .ok (.iinc 2 1, 3) := by decide +kernel
theorem dX13_lettersOf_13 : decode cX13_lettersOf 13 = .ok (.lload_n 3, 1) := by decide +kernel
theorem dX13_lettersOf_14 : decode cX13_lettersOf 14 = .ok (.ldc2_w 174, 3) := by decide +kernel
theorem dX13_lettersOf_17 : decode cX13_lettersOf 17 = .ok (.ldiv, 1) := by decide +kernel
theorem dX13_lettersOf_18 : decode cX13_lettersOf 18 = .ok (.lstore_n 3, 1) := by decide +kernel
theorem dX13_lettersOf_19 : decode cX13_lettersOf 19 = .ok (.goto (-15), 3) := by decide +kernel
theorem dX13_lettersOf_22 : decode cX13_lettersOf 22 = .ok (.iload_n 2, 1) := by decide +kernel
theorem dX13_lettersOf_23 : decode cX13_lettersOf 23 = .ok (.ireturn, 1) := by decide +kernel
theorem dX13_readRiver_0 : decode cX13_readRiver 0 = .ok (.aload_n 0, 1) := by decide +kernel
theorem dX13_readRiver_1 : decode cX13_readRiver 1 = .ok (.getfield 99, 3) := by decide +kernel
theorem dX13_readRiver_4 : decode cX13_readRiver 4 = .ok (.bipush 110, 2) := by decide +kernel
theorem dX13_readRiver_6 : decode cX13_readRiver 6 = .ok (.iaload, 1) := by decide +kernel
theorem dX13_readRiver_7 : decode cX13_readRiver 7 = .ok (.istore_n 1, 1) := by decide +kernel
theorem dX13_readRiver_8 : decode cX13_readRiver 8 = .ok (.iload_n 1, 1) := by decide +kernel
theorem dX13_readRiver_9 : decode cX13_readRiver 9 = .ok (.bipush 6, 2) := by decide +kernel
theorem dX13_readRiver_11 : decode cX13_readRiver 11 = .ok (.if_icmp .ne 9, 3) := by decide +kernel
theorem dX13_readRiver_14 : decode cX13_readRiver 14 = .ok (.aload_n 0, 1) := by decide +kernel
theorem dX13_readRiver_15 : decode cX13_readRiver 15 = .ok (.iconst 5, 1) := by decide +kernel
theorem dX13_readRiver_16 : decode cX13_readRiver 16 = .ok (.invokevirtual 199, 3) := by decide +kernel
theorem dX13_readRiver_19 : decode cX13_readRiver 19 = .ok (.return_, 1) := by decide +kernel
theorem dX13_readRiver_20 : decode cX13_readRiver 20 = .ok (.aload_n 0, 1) := by decide +kernel
theorem dX13_readRiver_21 : decode cX13_readRiver 21 = .ok (.dup, 1) := by decide +kernel
theorem dX13_readRiver_22 : decode cX13_readRiver 22 = .ok (.getfield 190, 3) := by decide +kernel
theorem dX13_readRiver_25 : decode cX13_readRiver 25 = .ok (.iconst 1, 1) := by decide +kernel
theorem dX13_readRiver_26 : decode cX13_readRiver 26 = .ok (.iadd, 1) := by decide +kernel
theorem dX13_readRiver_27 : decode cX13_readRiver 27 = .ok (.putfield 190, 3) := by decide +kernel
theorem dX13_readRiver_30 : decode cX13_readRiver 30 = .ok (.aload_n 0, 1) := by decide +kernel
theorem dX13_readRiver_31 : decode cX13_readRiver 31 = .ok (.invokevirtual 218, 3) := by decide +kernel
theorem dX13_readRiver_34 : decode cX13_readRiver 34 = .ok (.ifCond .ne 11, 3) := by decide +kernel
theorem dX13_readRiver_37 : decode cX13_readRiver 37 = .ok (.aload_n 0, 1) := by decide +kernel
theorem dX13_readRiver_38 : decode cX13_readRiver 38 = .ok (.iconst 1, 1) := by decide +kernel
theorem dX13_readRiver_39 : decode cX13_readRiver 39 = .ok (.invokevirtual 199, 3) := by decide +kernel
theorem dX13_readRiver_42 : decode cX13_readRiver 42 = .ok (.goto 16, 3) := by decide +kernel
theorem dX13_readRiver_45 : decode cX13_readRiver 45 = .ok (.aload_n 0, 1) := by decide +kernel
theorem dX13_readRiver_46 : decode cX13_readRiver 46 = .ok (.iconst 1, 1) := by decide +kernel
theorem dX13_readRiver_47 : decode cX13_readRiver 47 = .ok (.invokevirtual 222, 3) := by decide +kernel
theorem dX13_readRiver_50 : decode cX13_readRiver 50 = .ok (.ifCond .lt 8, 3) := by decide +kernel
theorem dX13_readRiver_53 : decode cX13_readRiver 53 = .ok (.aload_n 0, 1) := by decide +kernel
theorem dX13_readRiver_54 : decode cX13_readRiver 54 = .ok (.iconst 3, 1) := by decide +kernel
theorem dX13_readRiver_55 : decode cX13_readRiver 55 = .ok (.invokevirtual 199, 3) := by decide +kernel
theorem dX13_readRiver_58 : decode cX13_readRiver 58 = .ok (.aload_n 0, 1) := by decide +kernel
theorem dX13_readRiver_59 : decode cX13_readRiver 59 = .ok (.getfield 193, 3) := by decide +kernel
theorem dX13_readRiver_62 : decode cX13_readRiver 62 = .ok (.ifCond .le 4, 3) := by decide +kernel
theorem dX13_readRiver_65 : decode cX13_readRiver 65 = .ok (.return_, 1) := by decide +kernel
theorem dX13_readRiver_66 : decode cX13_readRiver 66 = .ok (.aload_n 0, 1) := by decide +kernel
theorem dX13_readRiver_67 : decode cX13_readRiver 67 = .ok (.getfield 111, 3) := by decide +kernel
theorem dX13_readRiver_70 : decode cX13_readRiver 70 = .ok (.iload_n 1, 1) := by decide +kernel
theorem dX13_readRiver_71 : decode cX13_readRiver 71 = .ok (.aload_n 0, 1) := by decide +kernel
theorem dX13_readRiver_72 : decode cX13_readRiver 72 = .ok (.getfield 30, 3) := by decide +kernel
theorem dX13_readRiver_75 : decode cX13_readRiver 75 = .ok (.aload_n 0, 1) := by decide +kernel
theorem dX13_readRiver_76 : decode cX13_readRiver 76 = .ok (.getfield 190, 3) := by decide +kernel
theorem dX13_readRiver_79 : decode cX13_readRiver 79 = .ok (.laload, 1) := by decide +kernel
theorem dX13_readRiver_80 : decode cX13_readRiver 80 = .ok (.lastore, 1) := by decide +kernel
theorem dX13_readRiver_81 : decode cX13_readRiver 81 = .ok (.aload_n 0, 1) := by decide +kernel
theorem dX13_readRiver_82 : decode cX13_readRiver 82 = .ok (.dup, 1) := by decide +kernel
theorem dX13_readRiver_83 : decode cX13_readRiver 83 = .ok (.getfield 190, 3) := by decide +kernel
theorem dX13_readRiver_86 : decode cX13_readRiver 86 = .ok (.iconst 1, 1) := by decide +kernel
theorem dX13_readRiver_87 : decode cX13_readRiver 87 = .ok (.iadd, 1) := by decide +kernel
theorem dX13_readRiver_88 : decode cX13_readRiver 88 = .ok (.putfield 190, 3) := by decide +kernel
theorem dX13_readRiver_91 : decode cX13_readRiver 91 = .ok (.aload_n 0, 1) := by decide +kernel
theorem dX13_readRiver_92 : decode cX13_readRiver 92 = .ok (.bipush 20, 2) := by decide +kernel
theorem dX13_readRiver_94 : decode cX13_readRiver 94 = .ok (.iconst 4, 1) := by decide +kernel
theorem dX13_readRiver_95 : decode cX13_readRiver 95 = .ok (.invokevirtual 215, 3) := by decide +kernel
theorem dX13_readRiver_98 : decode cX13_readRiver 98 = .ok (.istore_n 2, 1) := by decide +kernel
theorem dX13_readRiver_99 : decode cX13_readRiver 99 = .ok (.iload_n 2, 1) := by decide +kernel
theorem dX13_readRiver_100 : decode cX13_readRiver 100 = .ok (.ifCond .ge 9, 3) := by decide +kernel
theorem dX13_readRiver_103 : decode cX13_readRiver 103 = .ok (.aload_n 0, 1) := by decide +kernel
theorem dX13_readRiver_104 : decode cX13_readRiver 104 = .ok (.iconst 1, 1) := by decide +kernel
theorem dX13_readRiver_105 : decode cX13_readRiver 105 = .ok (.invokevirtual 199, 3) := by decide +kernel
theorem dX13_readRiver_108 : decode cX13_readRiver 108 = .ok (.return_, 1) := by decide +kernel
theorem dX13_readRiver_109 : decode cX13_readRiver 109 = .ok (.aload_n 0, 1) := by decide +kernel
theorem dX13_readRiver_110 : decode cX13_readRiver 110 = .ok (.dup, 1) := by decide +kernel
theorem dX13_readRiver_111 : decode cX13_readRiver 111 = .ok (.getfield 190, 3) := by decide +kernel
theorem dX13_readRiver_114 : decode cX13_readRiver 114 = .ok (.iconst 1, 1) := by decide +kernel
theorem dX13_readRiver_115 : decode cX13_readRiver 115 = .ok (.iadd, 1) := by decide +kernel
theorem dX13_readRiver_116 : decode cX13_readRiver 116 = .ok (.putfield 190, 3) := by decide +kernel
theorem dX13_readRiver_119 : decode cX13_readRiver 119 = .ok (.bipush 117, 2) := by decide +kernel
theorem dX13_readRiver_121 : decode cX13_readRiver 121 = .ok (.bipush 14, 2) := by decide +kernel
theorem dX13_readRiver_123 : decode cX13_readRiver 123 = .ok (.iload_n 1, 1) := by decide +kernel
theorem dX13_readRiver_124 : decode cX13_readRiver 124 = .ok (.imul, 1) := by decide +kernel
theorem dX13_readRiver_125 : decode cX13_readRiver 125 = .ok (.iadd, 1) := by decide +kernel
theorem dX13_readRiver_126 : decode cX13_readRiver 126 = .ok (.istore_n 3, 1) := by decide +kernel
theorem dX13_readRiver_127 : decode cX13_readRiver 127 = .ok (.aload_n 0, 1) := by decide +kernel
theorem dX13_readRiver_128 : decode cX13_readRiver 128 = .ok (.getfield 99, 3) := by decide +kernel
theorem dX13_readRiver_131 : decode cX13_readRiver 131 = .ok (.iload_n 3, 1) := by decide +kernel
theorem dX13_readRiver_132 : decode cX13_readRiver 132 = .ok (.iload_n 2, 1) := by decide +kernel
theorem dX13_readRiver_133 : decode cX13_readRiver 133 = .ok (.iastore, 1) := by decide +kernel
theorem dX13_readRiver_134 : decode cX13_readRiver 134 = .ok (.aload_n 0, 1) := by decide +kernel
theorem dX13_readRiver_135 : decode cX13_readRiver 135 = .ok (.getfield 99, 3) := by decide +kernel
theorem dX13_readRiver_138 : decode cX13_readRiver 138 = .ok (.iload_n 3, 1) := by decide +kernel
theorem dX13_readRiver_139 : decode cX13_readRiver 139 = .ok (.iconst 1, 1) := by decide +kernel
theorem dX13_readRiver_140 : decode cX13_readRiver 140 = .ok (.iadd, 1) := by decide +kernel
theorem dX13_readRiver_141 : decode cX13_readRiver 141 = .ok (.aload_n 0, 1) := by decide +kernel
theorem dX13_readRiver_142 : decode cX13_readRiver 142 = .ok (.iconst 1, 1) := by decide +kernel
theorem dX13_readRiver_143 : decode cX13_readRiver 143 = .ok (.iconst 1, 1) := by decide +kernel
theorem dX13_readRiver_144 : decode cX13_readRiver 144 = .ok (.bipush 99, 2) := by decide +kernel
theorem dX13_readRiver_146 : decode cX13_readRiver 146 = .ok (.invokevirtual 247, 3) := by decide +kernel
theorem dX13_readRiver_149 : decode cX13_readRiver 149 = .ok (.iastore, 1) := by decide +kernel
theorem dX13_readRiver_150 : decode cX13_readRiver 150 = .ok (.aload_n 0, 1) := by decide +kernel
theorem dX13_readRiver_151 : decode cX13_readRiver 151 = .ok (.getfield 99, 3) := by decide +kernel
theorem dX13_readRiver_154 : decode cX13_readRiver 154 = .ok (.iload_n 3, 1) := by decide +kernel
theorem dX13_readRiver_155 : decode cX13_readRiver 155 = .ok (.iconst 2, 1) := by decide +kernel
theorem dX13_readRiver_156 : decode cX13_readRiver 156 = .ok (.iadd, 1) := by decide +kernel
theorem dX13_readRiver_157 : decode cX13_readRiver 157 = .ok (.aload_n 0, 1) := by decide +kernel
theorem dX13_readRiver_158 : decode cX13_readRiver 158 = .ok (.iconst 2, 1) := by decide +kernel
theorem dX13_readRiver_159 : decode cX13_readRiver 159 = .ok (.iconst 0, 1) := by decide +kernel
theorem dX13_readRiver_160 : decode cX13_readRiver 160 = .ok (.aload_n 0, 1) := by decide +kernel
theorem dX13_readRiver_161 : decode cX13_readRiver 161 = .ok (.getfield 99, 3) := by decide +kernel
theorem dX13_readRiver_164 : decode cX13_readRiver 164 = .ok (.iload_n 3, 1) := by decide +kernel
theorem dX13_readRiver_165 : decode cX13_readRiver 165 = .ok (.iconst 1, 1) := by decide +kernel
theorem dX13_readRiver_166 : decode cX13_readRiver 166 = .ok (.iadd, 1) := by decide +kernel
theorem dX13_readRiver_167 : decode cX13_readRiver 167 = .ok (.iaload, 1) := by decide +kernel
theorem dX13_readRiver_168 : decode cX13_readRiver 168 = .ok (.iconst 1, 1) := by decide +kernel
theorem dX13_readRiver_169 : decode cX13_readRiver 169 = .ok (.isub, 1) := by decide +kernel
theorem dX13_readRiver_170 : decode cX13_readRiver 170 = .ok (.invokevirtual 247, 3) := by decide +kernel
theorem dX13_readRiver_173 : decode cX13_readRiver 173 = .ok (.iastore, 1) := by decide +kernel
theorem dX13_readRiver_174 : decode cX13_readRiver 174 = .ok (.aload_n 0, 1) := by decide +kernel
theorem dX13_readRiver_175 : decode cX13_readRiver 175 = .ok (.getfield 99, 3) := by decide +kernel
theorem dX13_readRiver_178 : decode cX13_readRiver 178 = .ok (.iload_n 3, 1) := by decide +kernel
theorem dX13_readRiver_179 : decode cX13_readRiver 179 = .ok (.iconst 3, 1) := by decide +kernel
theorem dX13_readRiver_180 : decode cX13_readRiver 180 = .ok (.iadd, 1) := by decide +kernel
theorem dX13_readRiver_181 : decode cX13_readRiver 181 = .ok (.aload_n 0, 1) := by decide +kernel
theorem dX13_readRiver_182 : decode cX13_readRiver 182 = .ok (.iconst 3, 1) := by decide +kernel
theorem dX13_readRiver_183 : decode cX13_readRiver 183 = .ok (.iconst 0, 1) := by decide +kernel
theorem dX13_readRiver_184 : decode cX13_readRiver 184 = .ok (.bipush 99, 2) := by decide +kernel
theorem dX13_readRiver_186 : decode cX13_readRiver 186 = .ok (.invokevirtual 247, 3) := by decide +kernel
theorem dX13_readRiver_189 : decode cX13_readRiver 189 = .ok (.iastore, 1) := by decide +kernel
theorem dX13_readRiver_190 : decode cX13_readRiver 190 = .ok (.aload_n 0, 1) := by decide +kernel
theorem dX13_readRiver_191 : decode cX13_readRiver 191 = .ok (.iconst 4, 1) := by decide +kernel
theorem dX13_readRiver_192 : decode cX13_readRiver 192 = .ok (.invokevirtual 208, 3) := by decide +kernel
theorem dX13_readRiver_195 : decode cX13_readRiver 195 = .ok (.iconst 0, 1) := by decide +kernel
theorem dX13_readRiver_196 : decode cX13_readRiver 196 = .ok (.istore 4, 2) := by decide +kernel
theorem dX13_readRiver_198 : decode cX13_readRiver 198 = .ok (.iload 4, 2) := by decide +kernel
theorem dX13_readRiver_200 : decode cX13_readRiver 200 = .ok (.iconst 4, 1) := by decide +kernel
