theorem dX13_init_0 : decode cX13_init 0 = .ok (.aload_n 0, 1) := by decide +kernel
theorem dX13_init_1 : decode cX13_init 1 = .ok (.invokespecial 18, 3) := by decide +kernel
theorem dX13_init_4 : decode cX13_init 4 = .ok (.aload_n 0, 1) := by decide +kernel
theorem dX13_init_5 : decode cX13_init 5 = .ok (.sipush 1000, 3) := by decide +kernel
theorem dX13_init_8 : decode cX13_init 8 = .ok (.newarray .int, 2) := by decide +kernel
theorem dX13_init_10 : decode cX13_init 10 = .ok (.putfield 14, 3) := by decide +kernel
theorem dX13_init_13 : decode cX13_init 13 = .ok (.aload_n 0, 1) := by decide +kernel
theorem dX13_init_14 : decode cX13_init 14 = .ok (.sipush 1002, 3) := by decide +kernel
theorem dX13_init_17 : decode cX13_init 17 = .ok (.newarray .int, 2) := by decide +kernel
theorem dX13_init_19 : decode cX13_init 19 = .ok (.putfield 24, 3) := by decide +kernel
theorem dX13_init_22 : decode cX13_init 22 = .ok (.aload_n 0, 1) := by decide +kernel
theorem dX13_init_23 : decode cX13_init 23 = .ok (.sipush 1002, 3) := by decide +kernel
theorem dX13_init_26 : decode cX13_init 26 = .ok (.newarray .int, 2) := by decide +kernel
theorem dX13_init_28 : decode cX13_init 28 = .ok (.putfield 27, 3) := by decide +kernel
theorem dX13_init_31 : decode cX13_init 31 = .ok (.aload_n 0, 1) := by decide +kernel
theorem dX13_init_32 : decode cX13_init 32 = .ok (.sipush 1002, 3) := by decide +kernel
theorem dX13_init_35 : decode cX13_init 35 = .ok (.newarray .long, 2) := by decide +kernel
theorem dX13_init_37 : decode cX13_init 37 = .ok (.putfield 30, 3) := by decide +kernel
theorem dX13_init_40 : decode cX13_init 40 = .ok (.aload_n 0, 1) := by decide +kernel
theorem dX13_init_41 : decode cX13_init 41 = .ok (.bipush 31, 2) := by decide +kernel
theorem dX13_init_43 : decode cX13_init 43 = .ok (.newarray .long, 2) := by decide +kernel
theorem dX13_init_45 : decode cX13_init 45 = .ok (.dup, 1) := by decide +kernel
theorem dX13_init_46 : decode cX13_init 46 = .ok (.iconst 0, 1) := by decide +kernel
theorem dX13_init_47 : decode cX13_init 47 = .ok (.ldc2_w 34, 3) := by decide +kernel
theorem dX13_init_50 : decode cX13_init 50 = .ok (.lastore, 1) := by decide +kernel
theorem dX13_init_51 : decode cX13_init 51 = .ok (.dup, 1) := by decide +kernel
theorem dX13_init_52 : decode cX13_init 52 = .ok (.iconst 1, 1) := by decide +kernel
theorem dX13_init_53 : decode cX13_init 53 = .ok (.ldc2_w 36, 3) := by decide +kernel
theorem dX13_init_56 : decode cX13_init 56 = .ok (.lastore, 1) := by decide +kernel
theorem dX13_init_57 : decode cX13_init 57 = .ok (.dup, 1) := by decide +kernel
theorem dX13_init_58 : decode cX13_init 58 = .ok (.iconst 2, 1) := by decide +kernel
theorem dX13_init_59 : decode cX13_init 59 = .ok (.ldc2_w 38, 3) := by decide +kernel
theorem dX13_init_62 : decode cX13_init 62 = .ok (.lastore, 1) := by decide +kernel
theorem dX13_init_63 : decode cX13_init 63 = .ok (.dup, 1) := by decide +kernel
theorem dX13_init_64 : decode cX13_init 64 = .ok (.iconst 3, 1) := by decide +kernel
theorem dX13_init_65 : decode cX13_init 65 = .ok (.ldc2_w 40, 3) := by decide +kernel
theorem dX13_init_68 : decode cX13_init 68 = .ok (.lastore, 1) := by decide +kernel
theorem dX13_init_69 : decode cX13_init 69 = .ok (.dup, 1) := by decide +kernel
theorem dX13_init_70 : decode cX13_init 70 = .ok (.iconst 4, 1) := by decide +kernel
theorem dX13_init_71 : decode cX13_init 71 = .ok (.ldc2_w 42, 3) := by decide +kernel
theorem dX13_init_74 : decode cX13_init 74 = .ok (.lastore, 1) := by decide +kernel
theorem dX13_init_75 : decode cX13_init 75 = .ok (.dup, 1) := by decide +kernel
theorem dX13_init_76 : decode cX13_init 76 = .ok (.iconst 5, 1) := by decide +kernel
theorem dX13_init_77 : decode cX13_init 77 = .ok (.ldc2_w 44, 3) := by decide +kernel
theorem dX13_init_80 : decode cX13_init 80 = .ok (.lastore, 1) := by decide +kernel
theorem dX13_init_81 : decode cX13_init 81 = .ok (.dup, 1) := by decide +kernel
theorem dX13_init_82 : decode cX13_init 82 = .ok (.bipush 6, 2) := by decide +kernel
theorem dX13_init_84 : decode cX13_init 84 = .ok (.ldc2_w 46, 3) := by decide +kernel
theorem dX13_init_87 : decode cX13_init 87 = .ok (.lastore, 1) := by decide +kernel
theorem dX13_init_88 : decode cX13_init 88 = .ok (.dup, 1) := by decide +kernel
theorem dX13_init_89 : decode cX13_init 89 = .ok (.bipush 7, 2) := by decide +kernel
theorem dX13_init_91 : decode cX13_init 91 = .ok (.ldc2_w 48, 3) := by decide +kernel
theorem dX13_init_94 : decode cX13_init 94 = .ok (.lastore, 1) := by decide +kernel
theorem dX13_init_95 : decode cX13_init 95 = .ok (.dup, 1) := by decide +kernel
theorem dX13_init_96 : decode cX13_init 96 = .ok (.bipush 8, 2) := by decide +kernel
theorem dX13_init_98 : decode cX13_init 98 = .ok (.ldc2_w 50, 3) := by decide +kernel
theorem dX13_init_101 : decode cX13_init 101 = .ok (.lastore, 1) := by decide +kernel
theorem dX13_init_102 : decode cX13_init 102 = .ok (.dup, 1) := by decide +kernel
theorem dX13_init_103 : decode cX13_init 103 = .ok (.bipush 9, 2) := by decide +kernel
theorem dX13_init_105 : decode cX13_init 105 = .ok (.ldc2_w 52, 3) := by decide +kernel
theorem dX13_init_108 : decode cX13_init 108 = .ok (.lastore, 1) := by decide +kernel
theorem dX13_init_109 : decode cX13_init 109 = .ok (.dup, 1) := by decide +kernel
theorem dX13_init_110 : decode cX13_init 110 = .ok (.bipush 10, 2) := by decide +kernel
theorem dX13_init_112 : decode cX13_init 112 = .ok (.ldc2_w 54, 3) := by decide +kernel
theorem dX13_init_115 : decode cX13_init 115 = .ok (.lastore, 1) := by decide +kernel
theorem dX13_init_116 : decode cX13_init 116 = .ok (.dup, 1) := by decide +kernel
theorem dX13_init_117 : decode cX13_init 117 = .ok (.bipush 11, 2) := by decide +kernel
theorem dX13_init_119 : decode cX13_init 119 = .ok (.ldc2_w 56, 3) := by decide +kernel
theorem dX13_init_122 : decode cX13_init 122 = .ok (.lastore, 1) := by decide +kernel
theorem dX13_init_123 : decode cX13_init 123 = .ok (.dup, 1) := by decide +kernel
theorem dX13_init_124 : decode cX13_init 124 = .ok (.bipush 12, 2) := by decide +kernel
theorem dX13_init_126 : decode cX13_init 126 = .ok (.ldc2_w 58, 3) := by decide +kernel
theorem dX13_init_129 : decode cX13_init 129 = .ok (.lastore, 1) := by decide +kernel
theorem dX13_init_130 : decode cX13_init 130 = .ok (.dup, 1) := by decide +kernel
theorem dX13_init_131 : decode cX13_init 131 = .ok (.bipush 13, 2) := by decide +kernel
theorem dX13_init_133 : decode cX13_init 133 = .ok (.ldc2_w 60, 3) := by decide +kernel
theorem dX13_init_136 : decode cX13_init 136 = .ok (.lastore, 1) := by decide +kernel
theorem dX13_init_137 : decode cX13_init 137 = .ok (.dup, 1) := by decide +kernel
theorem dX13_init_138 : decode cX13_init 138 = .ok (.bipush 14, 2) := by decide +kernel
theorem dX13_init_140 : decode cX13_init 140 = .ok (.ldc2_w 62, 3) := by decide +kernel
theorem dX13_init_143 : decode cX13_init 143 = .ok (.lastore, 1) := by decide +kernel
theorem dX13_init_144 : decode cX13_init 144 = .ok (.dup, 1) := by decide +kernel
theorem dX13_init_145 : decode cX13_init 145 = .ok (.bipush 15, 2) := by decide +kernel
theorem dX13_init_147 : decode cX13_init 147 = .ok (.ldc2_w 64, 3) := by decide +kernel
theorem dX13_init_150 : decode cX13_init 150 = .ok (.lastore, 1) := by decide +kernel
theorem dX13_init_151 : decode cX13_init 151 = .ok (.dup, 1) := by decide +kernel
theorem dX13_init_152 : decode cX13_init 152 = .ok (.bipush 16, 2) := by decide +kernel
theorem dX13_init_154 : decode cX13_init 154 = .ok (.ldc2_w 66, 3) := by decide +kernel
theorem dX13_init_157 : decode cX13_init 157 = .ok (.lastore, 1) := by decide +kernel
theorem dX13_init_158 : decode cX13_init 158 = .ok (.dup, 1) := by decide +kernel
theorem dX13_init_159 : decode cX13_init 159 = .ok (.bipush 17, 2) := by decide +kernel
theorem dX13_init_161 : decode cX13_init 161 = .ok (.ldc2_w 68, 3) := by decide +kernel
theorem dX13_init_164 : decode cX13_init 164 = .ok (.lastore, 1) := by decide +kernel
theorem dX13_init_165 : decode cX13_init 165 = .ok (.dup, 1) := by decide +kernel
theorem dX13_init_166 : decode cX13_init 166 = .ok (.bipush 18, 2) := by decide +kernel
theorem dX13_init_168 : decode cX13_init 168 = .ok (.ldc2_w 70, 3) := by decide +kernel
theorem dX13_init_171 : decode cX13_init 171 = .ok (.lastore, 1) := by decide +kernel
theorem dX13_init_172 : decode cX13_init 172 = .ok (.dup, 1) := by decide +kernel
theorem dX13_init_173 : decode cX13_init 173 = .ok (.bipush 19, 2) := by decide +kernel
theorem dX13_init_175 : decode cX13_init 175 = .ok (.ldc2_w 72, 3) := by decide +kernel
theorem dX13_init_178 : decode cX13_init 178 = .ok (.lastore, 1) := by decide +kernel
theorem dX13_init_179 : decode cX13_init 179 = .ok (.dup, 1) := by decide +kernel
theorem dX13_init_180 : decode cX13_init 180 = .ok (.bipush 20, 2) := by decide +kernel
theorem dX13_init_182 : decode cX13_init 182 = .ok (.ldc2_w 74, 3) := by decide +kernel
theorem dX13_init_185 : decode cX13_init 185 = .ok (.lastore, 1) := by decide +kernel
theorem dX13_init_186 : decode cX13_init 186 = .ok (.dup, 1) := by decide +kernel
theorem dX13_init_187 : decode cX13_init 187 = .ok (.bipush 21, 2) := by decide +kernel
theorem dX13_init_189 : decode cX13_init 189 = .ok (.ldc2_w 76, 3) := by decide +kernel
theorem dX13_init_192 : decode cX13_init 192 = .ok (.lastore, 1) := by decide +kernel
theorem dX13_init_193 : decode cX13_init 193 = .ok (.dup, 1) := by decide +kernel
theorem dX13_init_194 : decode cX13_init 194 = .ok (.bipush 22, 2) := by decide +kernel
theorem dX13_init_196 : decode cX13_init 196 = .ok (.ldc2_w 78, 3) := by decide +kernel
theorem dX13_init_199 : decode cX13_init 199 = .ok (.lastore, 1) := by decide +kernel
theorem dX13_init_200 : decode cX13_init 200 = .ok (.dup, 1) := by decide +kernel
theorem dX13_init_201 : decode cX13_init 201 = .ok (.bipush 23, 2) := by decide +kernel
theorem dX13_init_203 : decode cX13_init 203 = .ok (.ldc2_w 80, 3) := by decide +kernel
theorem dX13_init_206 : decode cX13_init 206 = .ok (.lastore, 1) := by decide +kernel
theorem dX13_init_207 : decode cX13_init 207 = .ok (.dup, 1) := by decide +kernel
theorem dX13_init_208 : decode cX13_init 208 = .ok (.bipush 24, 2) := by decide +kernel
theorem dX13_init_210 : decode cX13_init 210 = .ok (.ldc2_w 82, 3) := by decide +kernel
theorem dX13_init_213 : decode cX13_init 213 = .ok (.lastore, 1) := by decide +kernel
theorem dX13_init_214 : decode cX13_init 214 = .ok (.dup, 1) := by decide +kernel
theorem dX13_init_215 : decode cX13_init 215 = .ok (.bipush 25, 2) := by decide +kernel
theorem dX13_init_217 : decode cX13_init 217 = .ok (.ldc2_w 84, 3) := by decide +kernel
theorem dX13_init_220 : decode cX13_init 220 = .ok (.lastore, 1) := by decide +kernel
theorem dX13_init_221 : decode cX13_init 221 = .ok (.dup, 1) := by decide +kernel
theorem dX13_init_222 : decode cX13_init 222 = .ok (.bipush 26, 2) := by decide +kernel
theorem dX13_init_224 : decode cX13_init 224 = .ok (.ldc2_w 86, 3) := by decide +kernel
theorem dX13_init_227 : decode cX13_init 227 = .ok (.lastore, 1) := by decide +kernel
theorem dX13_init_228 : decode cX13_init 228 = .ok (.dup, 1) := by decide +kernel
theorem dX13_init_229 : decode cX13_init 229 = .ok (.bipush 27, 2) := by decide +kernel
theorem dX13_init_231 : decode cX13_init 231 = .ok (.ldc2_w 88, 3) := by decide +kernel
theorem dX13_init_234 : decode cX13_init 234 = .ok (.lastore, 1) := by decide +kernel
theorem dX13_init_235 : decode cX13_init 235 = .ok (.dup, 1) := by decide +kernel
theorem dX13_init_236 : decode cX13_init 236 = .ok (.bipush 28, 2) := by decide +kernel
theorem dX13_init_238 : decode cX13_init 238 = .ok (.ldc2_w 90, 3) := by decide +kernel
theorem dX13_init_241 : decode cX13_init 241 = .ok (.lastore, 1) := by decide +kernel
theorem dX13_init_242 : decode cX13_init 242 = .ok (.dup, 1) := by decide +kernel
theorem dX13_init_243 : decode cX13_init 243 = .ok (.bipush 29, 2) := by decide +kernel
theorem dX13_init_245 : decode cX13_init 245 = .ok (.ldc2_w 92, 3) := by decide +kernel
theorem dX13_init_248 : decode cX13_init 248 = .ok (.lastore, 1) := by decide +kernel
theorem dX13_init_249 : decode cX13_init 249 = .ok (.dup, 1) := by decide +kernel
theorem dX13_init_250 : decode cX13_init 250 = .ok (.bipush 30, 2) := by decide +kernel
theorem dX13_init_252 : decode cX13_init 252 = .ok (.ldc2_w 94, 3) := by decide +kernel
theorem dX13_init_255 : decode cX13_init 255 = .ok (.lastore, 1) := by decide +kernel
theorem dX13_init_256 : decode cX13_init 256 = .ok (.putfield 96, 3) := by decide +kernel
theorem dX13_init_259 : decode cX13_init 259 = .ok (.aload_n 0, 1) := by decide +kernel
theorem dX13_init_260 : decode cX13_init 260 = .ok (.sipush 220, 3) := by decide +kernel
theorem dX13_init_263 : decode cX13_init 263 = .ok (.newarray .int, 2) := by decide +kernel
theorem dX13_init_265 : decode cX13_init 265 = .ok (.putfield 99, 3) := by decide +kernel
theorem dX13_init_268 : decode cX13_init 268 = .ok (.aload_n 0, 1) := by decide +kernel
theorem dX13_init_269 : decode cX13_init 269 = .ok (.sipush 2200, 3) := by decide +kernel
theorem dX13_init_272 : decode cX13_init 272 = .ok (.newarray .int, 2) := by decide +kernel
theorem dX13_init_274 : decode cX13_init 274 = .ok (.putfield 102, 3) := by decide +kernel
theorem dX13_init_277 : decode cX13_init 277 = .ok (.aload_n 0, 1) := by decide +kernel
theorem dX13_init_278 : decode cX13_init 278 = .ok (.sipush 2200, 3) := by decide +kernel
theorem dX13_init_281 : decode cX13_init 281 = .ok (.newarray .int, 2) := by decide +kernel
theorem dX13_init_283 : decode cX13_init 283 = .ok (.putfield 105, 3) := by decide +kernel
theorem dX13_init_286 : decode cX13_init 286 = .ok (.aload_n 0, 1) := by decide +kernel
theorem dX13_init_287 : decode cX13_init 287 = .ok (.bipush 6, 2) := by decide +kernel
theorem dX13_init_289 : decode cX13_init 289 = .ok (.newarray .long, 2) := by decide +kernel
theorem dX13_init_291 : decode cX13_init 291 = .ok (.putfield 108, 3) := by decide +kernel
theorem dX13_init_294 : decode cX13_init 294 = .ok (.aload_n 0, 1) := by decide +kernel
theorem dX13_init_295 : decode cX13_init 295 = .ok (.bipush 6, 2) := by decide +kernel
theorem dX13_init_297 : decode cX13_init 297 = .ok (.newarray .long, 2) := by decide +kernel
theorem dX13_init_299 : decode cX13_init 299 = .ok (.putfield 111, 3) := by decide +kernel
theorem dX13_init_302 : decode cX13_init 302 = .ok (.aload_n 0, 1) := by decide +kernel
theorem dX13_init_303 : decode cX13_init 303 = .ok (.sipush 160, 3) := by decide +kernel
theorem dX13_init_306 : decode cX13_init 306 = .ok (.newarray .int, 2) := by decide +kernel
theorem dX13_init_308 : decode cX13_init 308 = .ok (.putfield 114, 3) := by decide +kernel
theorem dX13_init_311 : decode cX13_init 311 = .ok (.aload_n 0, 1) := by decide +kernel
theorem dX13_init_312 : decode cX13_init 312 = .ok (.bipush 6, 2) := by decide +kernel
theorem dX13_init_314 : decode cX13_init 314 = .ok (.newarray .int, 2) := by decide +kernel
theorem dX13_init_316 : decode cX13_init 316 = .ok (.putfield 117, 3) := by decide +kernel
theorem dX13_init_319 : decode cX13_init 319 = .ok (.aload_n 0, 1) := by decide +kernel
theorem dX13_init_320 : decode cX13_init 320 = .ok (.iconst 4, 1) := by decide +kernel
theorem dX13_init_321 : decode cX13_init 321 = .ok (.newarray .int, 2) := by decide +kernel
theorem dX13_init_323 : decode cX13_init 323 = .ok (.putfield 120, 3) := by decide +kernel
theorem dX13_init_326 : decode cX13_init 326 = .ok (.aload_n 0, 1) := by decide +kernel
theorem dX13_init_327 : decode cX13_init 327 = .ok (.sipush 1100, 3) := by decide +kernel
theorem dX13_init_330 : decode cX13_init 330 = .ok (.newarray .int, 2) := by decide +kernel
theorem dX13_init_332 : decode cX13_init 332 = .ok (.putfield 123, 3) := by decide +kernel
theorem dX13_init_335 : decode cX13_init 335 = .ok (.aload_n 0, 1) := by decide +kernel
theorem dX13_init_336 : decode cX13_init 336 = .ok (.sipush 1320, 3) := by decide +kernel
theorem dX13_init_339 : decode cX13_init 339 = .ok (.newarray .int, 2) := by decide +kernel
theorem dX13_init_341 : decode cX13_init 341 = .ok (.putfield 126, 3) := by decide +kernel
theorem dX13_init_344 : decode cX13_init 344 = .ok (.aload_n 0, 1) := by decide +kernel
theorem dX13_init_345 : decode cX13_init 345 = .ok (.iconst 4, 1) := by decide +kernel
theorem dX13_init_346 : decode cX13_init 346 = .ok (.newarray .boolean, 2) := by decide +kernel
theorem dX13_init_348 : decode cX13_init 348 = .ok (.putfield 129, 3) := by decide +kernel
theorem dX13_init_351 : decode cX13_init 351 = .ok (.aload_n 0, 1) := by decide +kernel
theorem dX13_init_352 : decode cX13_init 352 = .ok (.bipush 36, 2) := by decide +kernel
theorem dX13_init_354 : decode cX13_init 354 = .ok (.newarray .int, 2) := by decide +kernel
theorem dX13_init_356 : decode cX13_init 356 = .ok (.putfield 133, 3) := by decide +kernel
theorem dX13_init_359 : decode cX13_init 359 = .ok (.aload_n 0, 1) := by decide +kernel
theorem dX13_init_360 : decode cX13_init 360 = .ok (.bipush 6, 2) := by decide +kernel
theorem dX13_init_362 : decode cX13_init 362 = .ok (.newarray .int, 2) := by decide +kernel
theorem dX13_init_364 : decode cX13_init 364 = .ok (.putfield 136, 3) := by decide +kernel
theorem dX13_init_367 : decode cX13_init 367 = .ok (.aload_n 0, 1) := by decide +kernel
theorem dX13_init_368 : decode cX13_init 368 = .ok (.bipush 6, 2) := by decide +kernel
theorem dX13_init_370 : decode cX13_init 370 = .ok (.newarray .int, 2) := by decide +kernel
theorem dX13_init_372 : decode cX13_init 372 = .ok (.putfield 139, 3) := by decide +kernel
theorem dX13_init_375 : decode cX13_init 375 = .ok (.aload_n 0, 1) := by decide +kernel
theorem dX13_init_376 : decode cX13_init 376 = .ok (.sipush 14400, 3) := by decide +kernel
theorem dX13_init_379 : decode cX13_init 379 = .ok (.newarray .int, 2) := by decide +kernel
theorem dX13_init_381 : decode cX13_init 381 = .ok (.putfield 142, 3) := by decide +kernel
theorem dX13_init_384 : decode cX13_init 384 = .ok (.aload_n 0, 1) := by decide +kernel
theorem dX13_init_385 : decode cX13_init 385 = .ok (.bipush 6, 2) := by decide +kernel
theorem dX13_init_387 : decode cX13_init 387 = .ok (.newarray .int, 2) := by decide +kernel
theorem dX13_init_389 : decode cX13_init 389 = .ok (.putfield 145, 3) := by decide +kernel
theorem dX13_init_392 : decode cX13_init 392 = .ok (.aload_n 0, 1) := by decide +kernel
theorem dX13_init_393 : decode cX13_init 393 = .ok (.bipush 6, 2) := by decide +kernel
theorem dX13_init_395 : decode cX13_init 395 = .ok (.newarray .int, 2) := by decide +kernel
theorem dX13_init_397 : decode cX13_init 397 = .ok (.putfield 148, 3) := by decide +kernel
theorem dX13_init_400 : decode cX13_init 400 = .ok (.aload_n 0, 1) := by decide +kernel
theorem dX13_init_401 : decode cX13_init 401 = .ok (.bipush 6, 2) := by decide +kernel
theorem dX13_init_403 : decode cX13_init 403 = .ok (.newarray .int, 2) := by decide +kernel
theorem dX13_init_405 : decode cX13_init 405 = .ok (.putfield 151, 3) := by decide +kernel
theorem dX13_init_408 : decode cX13_init 408 = .ok (.aload_n 0, 1) := by decide +kernel
theorem dX13_init_409 : decode cX13_init 409 = .ok (.bipush 6, 2) := by decide +kernel
theorem dX13_init_411 : decode cX13_init 411 = .ok (.newarray .int, 2) := by decide +kernel
theorem dX13_init_413 : decode cX13_init 413 = .ok (.putfield 154, 3) := by decide +kernel
theorem dX13_init_416 : decode cX13_init 416 = .ok (.aload_n 0, 1) := by decide +kernel
theorem dX13_init_417 : decode cX13_init 417 = .ok (.sipush 441, 3) := by decide +kernel
theorem dX13_init_420 : decode cX13_init 420 = .ok (.newarray .boolean, 2) := by decide +kernel
theorem dX13_init_422 : decode cX13_init 422 = .ok (.putfield 157, 3) := by decide +kernel
theorem dX13_init_425 : decode cX13_init 425 = .ok (.aload_n 0, 1) := by decide +kernel
theorem dX13_init_426 : decode cX13_init 426 = .ok (.iconst 0, 1) := by decide +kernel
theorem dX13_init_427 : decode cX13_init 427 = .ok (.invokevirtual 160, 3) := by decide +kernel
theorem dX13_init_430 : decode cX13_init 430 = .ok (.aload_n 0, 1) := by decide +kernel
theorem dX13_init_431 : decode cX13_init 431 = .ok (.invokevirtual 164, 3) := by decide +kernel
theorem dX13_init_434 : decode cX13_init 434 = .ok (.return_, 1) := by decide +kernel
theorem dX13_starts_0 : decode cX13_starts 0 = .ok (.aload_n 0, 1) := by decide +kernel
theorem dX13_starts_1 : decode cX13_starts 1 = .ok (.getfield 126, 3) := by decide +kernel
theorem dX13_starts_4 : decode cX13_starts 4 = .ok (.iload_n 1, 1) := by decide +kernel
theorem dX13_starts_5 : decode cX13_starts 5 = .ok (.iconst 0, 1) := by decide +kernel
theorem dX13_starts_6 : decode cX13_starts 6 = .ok (.iadd, 1) := by decide +kernel
theorem dX13_starts_7 : decode cX13_starts 7 = .ok (.iconst 0, 1) := by decide +kernel
theorem dX13_starts_8 : decode cX13_starts 8 = .ok (.iastore, 1) := by decide +kernel
theorem dX13_starts_9 : decode cX13_starts 9 = .ok (.iconst 0, 1) := by decide +kernel
theorem dX13_starts_10 : decode cX13_starts 10 = .ok (.istore_n 2, 1) := by decide +kernel
theorem dX13_starts_11 : decode cX13_starts 11 = .ok (.iload_n 2, 1) := by decide +kernel
theorem dX13_starts_12 : decode cX13_starts 12 = .ok (.bipush 6, 2) := by decide +kernel
theorem dX13_starts_14 : decode cX13_starts 14 = .ok (.if_icmp .ge 44, 3) := by decide +kernel
theorem dX13_starts_17 : decode cX13_starts 17 = .ok (.aload_n 0, 1) := by decide +kernel
theorem dX13_starts_18 : decode cX13_starts 18 = .ok (.getfield 126, 3) := by decide +kernel
theorem dX13_starts_21 : decode cX13_starts 21 = .ok (.iload_n 1, 1) := by decide +kernel
theorem dX13_starts_22 : decode cX13_starts 22 = .ok (.iconst 1, 1) := by decide +kernel
theorem dX13_starts_23 : decode cX13_starts 23 = .ok (.iadd, 1) := by decide +kernel
theorem dX13_starts_24 : decode cX13_starts 24 = .ok (.iload_n 2, 1) := by decide +kernel
theorem dX13_starts_25 : decode cX13_starts 25 = .ok (.iadd, 1) := by decide +kernel
theorem dX13_starts_26 : decode cX13_starts 26 = .ok (.iconst (-1), 1) := by decide +kernel
theorem dX13_starts_27 : decode cX13_starts 27 = .ok (.iastore, 1) := by decide +kernel
theorem dX13_starts_28 : decode cX13_starts 28 = .ok (.aload_n 0, 1) := by decide +kernel
theorem dX13_starts_29 : decode cX13_starts 29 = .ok (.getfield 126, 3) := by decide +kernel
theorem dX13_starts_32 : decode cX13_starts 32 = .ok (.iload_n 1, 1) := by decide +kernel
theorem dX13_starts_33 : decode cX13_starts 33 = .ok (.bipush 7, 2) := by decide +kernel
theorem dX13_starts_35 : decode cX13_starts 35 = .ok (.iadd, 1) := by decide +kernel
theorem dX13_starts_36 : decode cX13_starts 36 = .ok (.iload_n 2, 1) := by decide +kernel
theorem dX13_starts_37 : decode cX13_starts 37 = .ok (.iadd, 1) := by decide +kernel
theorem dX13_starts_38 : decode cX13_starts 38 = .ok (.iconst 0, 1) := by decide +kernel
theorem dX13_starts_39 : decode cX13_starts 39 = .ok (.iastore, 1) := by decide +kernel
theorem dX13_starts_40 : decode cX13_starts 40 = .ok (.aload_n 0, 1) := by decide +kernel
theorem dX13_starts_41 : decode cX13_starts 41 = .ok (.getfield 126, 3) := by decide +kernel
theorem dX13_starts_44 : decode cX13_starts 44 = .ok (.iload_n 1, 1) := by decide +kernel
theorem dX13_starts_45 : decode cX13_starts 45 = .ok (.bipush 13, 2) := by decide +kernel
theorem dX13_starts_47 : decode cX13_starts 47 = .ok (.iadd, 1) := by decide +kernel
theorem dX13_starts_48 : decode cX13_starts 48 = .ok (.iload_n 2, 1) := by decide +kernel
theorem dX13_starts_49 : decode cX13_starts 49 = .ok (.iadd, 1) := by decide +kernel
theorem dX13_starts_50 : decode cX13_starts 50 = .ok (.iconst 0, 1) := by decide +kernel
theorem dX13_starts_51 : decode cX13_starts 51 = .ok (.iastore, 1) := by decide +kernel
theorem dX13_starts_52 : decode cX13_starts 52 = .ok (.iinc 2 1, 3) := by decide +kernel
theorem dX13_starts_55 : decode cX13_starts 55 = .ok (.goto (-44), 3) := by decide +kernel
theorem dX13_starts_58 : decode cX13_starts 58 = .ok (.return_, 1) := by decide +kernel
theorem dX13_begins_0 : decode cX13_begins 0 = .ok (.aload_n 0, 1) := by decide +kernel
theorem dX13_begins_1 : decode cX13_begins 1 = .ok (.iconst 0, 1) := by decide +kernel
theorem dX13_begins_2 : decode cX13_begins 2 = .ok (.invokevirtual 286, 3) := by decide +kernel
theorem dX13_begins_5 : decode cX13_begins 5 = .ok (.aload_n 0, 1) := by decide +kernel
theorem dX13_begins_6 : decode cX13_begins 6 = .ok (.getfield 126, 3) := by decide +kernel
theorem dX13_begins_9 : decode cX13_begins 9 = .ok (.bipush 19, 2) := by decide +kernel
theorem dX13_begins_11 : decode cX13_begins 11 = .ok (.iconst (-1), 1) := by decide +kernel
theorem dX13_begins_12 : decode cX13_begins 12 = .ok (.iastore, 1) := by decide +kernel
theorem dX13_begins_13 : decode cX13_begins 13 = .ok (.aload_n 0, 1) := by decide +kernel
theorem dX13_begins_14 : decode cX13_begins 14 = .ok (.getfield 126, 3) := by decide +kernel
theorem dX13_begins_17 : decode cX13_begins 17 = .ok (.bipush 26, 2) := by decide +kernel
theorem dX13_begins_19 : decode cX13_begins 19 = .ok (.iconst 0, 1) := by decide +kernel
theorem dX13_begins_20 : decode cX13_begins 20 = .ok (.iastore, 1) := by decide +kernel
theorem dX13_begins_21 : decode cX13_begins 21 = .ok (.aload_n 0, 1) := by decide +kernel
theorem dX13_begins_22 : decode cX13_begins 22 = .ok (.getfield 114, 3) := by decide +kernel
theorem dX13_begins_25 : decode cX13_begins 25 = .ok (.iconst 0, 1) := by decide +kernel
theorem dX13_begins_26 : decode cX13_begins 26 = .ok (.iconst 0, 1) := by decide +kernel
theorem dX13_begins_27 : decode cX13_begins 27 = .ok (.iastore, 1) := by decide +kernel
theorem dX13_begins_28 : decode cX13_begins 28 = .ok (.aload_n 0, 1) := by decide +kernel
theorem dX13_begins_29 : decode cX13_begins 29 = .ok (.iconst 0, 1) := by decide +kernel
theorem dX13_begins_30 : decode cX13_begins 30 = .ok (.putfield 289, 3) := by decide +kernel
theorem dX13_begins_33 : decode cX13_begins 33 = .ok (.iconst 0, 1) := by decide +kernel
theorem dX13_begins_34 : decode cX13_begins 34 = .ok (.istore_n 1, 1) := by decide +kernel
theorem dX13_begins_35 : decode cX13_begins 35 = .ok (.iload_n 1, 1) := by decide +kernel
theorem dX13_begins_36 : decode cX13_begins 36 = .ok (.iconst 4, 1) := by decide +kernel
theorem dX13_begins_37 : decode cX13_begins 37 = .ok (.if_icmp .ge 16, 3) := by decide +kernel
theorem dX13_begins_40 : decode cX13_begins 40 = .ok (.aload_n 0, 1) := by decide +kernel
theorem dX13_begins_41 : decode cX13_begins 41 = .ok (.getfield 129, 3) := by decide +kernel
theorem dX13_begins_44 : decode cX13_begins 44 = .ok (.iload_n 1, 1) := by decide +kernel
theorem dX13_begins_45 : decode cX13_begins 45 = .ok (.iconst 0, 1) := by decide +kernel
theorem dX13_begins_46 : decode cX13_begins 46 = .ok (.bastore, 1) := by decide +kernel
theorem dX13_begins_47 : decode cX13_begins 47 = .ok (.iinc 1 1, 3) := by decide +kernel
theorem dX13_begins_50 : decode cX13_begins 50 = .ok (.goto (-15), 3) := by decide +kernel
theorem dX13_begins_53 : decode cX13_begins 53 = .ok (.return_, 1) := by decide +kernel
theorem dX13_standsAsAlways_0 : decode cX13_standsAsAlways 0 = .ok (.iconst 0, 1) := by decide +kernel
theorem dX13_standsAsAlways_1 : decode cX13_standsAsAlways 1 = .ok (.istore_n 2, 1) := by decide +kernel
theorem dX13_standsAsAlways_2 : decode cX13_standsAsAlways 2 = .ok (.iload_n 2, 1) := by decide +kernel
theorem dX13_standsAsAlways_3 : decode cX13_standsAsAlways 3 = .ok (.bipush 110, 2) := by decide +kernel
theorem dX13_standsAsAlways_5 : decode cX13_standsAsAlways 5 = .ok (.if_icmp .ge 18, 3) := by decide +kernel
theorem dX13_standsAsAlways_8 : decode cX13_standsAsAlways 8 = .ok (.aload_n 0, 1) := by decide +kernel
theorem dX13_standsAsAlways_9 : decode cX13_standsAsAlways 9 = .ok (.getfield 99, 3) := by decide +kernel
theorem dX13_standsAsAlways_12 : decode cX13_standsAsAlways 12 = .ok (.iload_n 1, 1) := by decide +kernel
theorem dX13_standsAsAlways_13 : decode cX13_standsAsAlways 13 = .ok (.iload_n 2, 1) := by decide +kernel
theorem dX13_standsAsAlways_14 : decode cX13_standsAsAlways 14 = .ok (.iadd, 1) := by decide +kernel
theorem dX13_standsAsAlways_15 : decode cX13_standsAsAlways 15 = .ok (.iconst 0, 1) := by decide +kernel
theorem dX13_standsAsAlways_16 : decode cX13_standsAsAlways 16 = .ok (.iastore, 1) := by decide +kernel
theorem dX13_standsAsAlways_17 : decode cX13_standsAsAlways 17 = .ok (.iinc 2 1, 3) := by decide +kernel
theorem dX13_standsAsAlways_20 : decode cX13_standsAsAlways 20 = .ok (.goto (-18), 3) := by decide +kernel
theorem dX13_standsAsAlways_23 : decode cX13_standsAsAlways 23 = .ok (.aload_n 0, 1) := by decide +kernel
theorem dX13_standsAsAlways_24 : decode cX13_standsAsAlways 24 = .ok (.getfield 99, 3) := by decide +kernel
theorem dX13_standsAsAlways_27 : decode cX13_standsAsAlways 27 = .ok (.iload_n 1, 1) := by decide +kernel
theorem dX13_standsAsAlways_28 : decode cX13_standsAsAlways 28 = .ok (.iconst 5, 1) := by decide +kernel
theorem dX13_standsAsAlways_29 : decode cX13_standsAsAlways 29 = .ok (.iadd, 1) := by decide +kernel
theorem dX13_standsAsAlways_30 : decode cX13_standsAsAlways 30 = .ok (.iconst (-1), 1) := by decide +kernel
theorem dX13_standsAsAlways_31 : decode cX13_standsAsAlways 31 = .ok (.iastore, 1) := by decide +kernel
theorem dX13_standsAsAlways_32 : decode cX13_standsAsAlways 32 = .ok (.aload_n 0, 1) := by decide +kernel
theorem dX13_standsAsAlways_33 : decode cX13_standsAsAlways 33 = .ok (.getfield 99, 3) := by decide +kernel
theorem dX13_standsAsAlways_36 : decode cX13_standsAsAlways 36 = .ok (.iload_n 1, 1) := by decide +kernel
theorem dX13_standsAsAlways_37 : decode cX13_standsAsAlways 37 = .ok (.iconst 5, 1) := by decide +kernel
theorem dX13_standsAsAlways_38 : decode cX13_standsAsAlways 38 = .ok (.iadd, 1) := by decide +kernel
theorem dX13_standsAsAlways_39 : decode cX13_standsAsAlways 39 = .ok (.iconst 1, 1) := by decide +kernel
theorem dX13_standsAsAlways_40 : decode cX13_standsAsAlways 40 = .ok (.iadd, 1) := by decide +kernel
theorem dX13_standsAsAlways_41 : decode cX13_standsAsAlways 41 = .ok (.iconst (-1), 1) := by decide +kernel
theorem dX13_standsAsAlways_42 : decode cX13_standsAsAlways 42 = .ok (.iastore, 1) := by decide +kernel
theorem dX13_standsAsAlways_43 : decode cX13_standsAsAlways 43 = .ok (.return_, 1) := by decide +kernel
theorem dX13_thrown_0 : decode cX13_thrown 0 = .ok (.aload_n 0, 1) := by decide +kernel
theorem dX13_thrown_1 : decode cX13_thrown 1 = .ok (.getfield 1, 3) := by decide +kernel
theorem dX13_thrown_4 : decode cX13_thrown 4 = .ok (.ireturn, 1) := by decide +kernel
theorem dX13_feed_0 : decode cX13_feed 0 = .ok (.aload_n 0, 1) := by decide +kernel
theorem dX13_feed_1 : decode cX13_feed 1 = .ok (.iconst 0, 1) := by decide +kernel
theorem dX13_feed_2 : decode cX13_feed 2 = .ok (.putfield 1, 3) := by decide +kernel
theorem dX13_feed_5 : decode cX13_feed 5 = .ok (.aload_n 0, 1) := by decide +kernel
theorem dX13_feed_6 : decode cX13_feed 6 = .ok (.lload_n 1, 1) := by decide +kernel
theorem dX13_feed_7 : decode cX13_feed 7 = .ok (.invokevirtual 7, 3) := by decide +kernel
theorem dX13_feed_10 : decode cX13_feed 10 = .ok (.aload_n 0, 1) := by decide +kernel
theorem dX13_feed_11 : decode cX13_feed 11 = .ok (.lload_n 3, 1) := by decide +kernel
theorem dX13_feed_12 : decode cX13_feed 12 = .ok (.invokevirtual 7, 3) := by decide +kernel
theorem dX13_feed_15 : decode cX13_feed 15 = .ok (.aload_n 0, 1) := by decide +kernel
theorem dX13_feed_16 : decode cX13_feed 16 = .ok (.lload 5, 2) := by decide +kernel
theorem dX13_feed_18 : decode cX13_feed 18 = .ok (.invokevirtual 7, 3) := by decide +kernel
theorem dX13_feed_21 : decode cX13_feed 21 = .ok (.aload_n 0, 1) := by decide +kernel
theorem dX13_feed_22 : decode cX13_feed 22 = .ok (.getfield 11, 3) := by decide +kernel
theorem dX13_feed_25 : decode cX13_feed 25 = .ok (.ireturn, 1) := by decide +kernel
theorem dX13_lay_0 : decode cX13_lay 0 = .ok (.bipush 56, 2) := by decide +kernel
theorem dX13_lay_2 : decode cX13_lay 2 = .ok (.istore_n 3, 1) := by decide +kernel
theorem dX13_lay_3 : decode cX13_lay 3 = .ok (.iload_n 3, 1) := by decide +kernel
theorem dX13_lay_4 : decode cX13_lay 4 = .ok (.ifCond .lt 71, 3) := by decide +kernel
theorem dX13_lay_7 : decode cX13_lay 7 = .ok (.lload_n 1, 1) := by decide +kernel
theorem dX13_lay_8 : decode cX13_lay 8 = .ok (.iload_n 3, 1) := by decide +kernel
theorem dX13_lay_9 : decode cX13_lay 9 = .ok (.lshr, 1) := by decide +kernel
theorem dX13_lay_10 : decode cX13_lay 10 = .ok (.l2i, 1) := by decide +kernel
theorem dX13_lay_11 : decode cX13_lay 11 = .ok (.sipush 255, 3) := by decide +kernel
theorem dX13_lay_14 : decode cX13_lay 14 = .ok (.iand, 1) := by decide +kernel
theorem dX13_lay_15 : decode cX13_lay 15 = .ok (.istore 4, 2) := by decide +kernel
theorem dX13_lay_17 : decode cX13_lay 17 = .ok (.iload 4, 2) := by decide +kernel
theorem dX13_lay_19 : decode cX13_lay 19 = .ok (.bipush 10, 2) := by decide +kernel
theorem dX13_lay_21 : decode cX13_lay 21 = .ok (.if_icmp .eq 17, 3) := by decide +kernel
theorem dX13_lay_24 : decode cX13_lay 24 = .ok (.iload 4, 2) := by decide +kernel
theorem dX13_lay_26 : decode cX13_lay 26 = .ok (.bipush 32, 2) := by decide +kernel
theorem dX13_lay_28 : decode cX13_lay 28 = .ok (.if_icmp .lt 41, 3) := by decide +kernel
theorem dX13_lay_31 : decode cX13_lay 31 = .ok (.iload 4, 2) := by decide +kernel
theorem dX13_lay_33 : decode cX13_lay 33 = .ok (.bipush 126, 2) := by decide +kernel
theorem dX13_lay_35 : decode cX13_lay 35 = .ok (.if_icmp .gt 34, 3) := by decide +kernel
theorem dX13_lay_38 : decode cX13_lay 38 = .ok (.aload_n 0, 1) := by decide +kernel
theorem dX13_lay_39 : decode cX13_lay 39 = .ok (.getfield 11, 3) := by decide +kernel
theorem dX13_lay_42 : decode cX13_lay 42 = .ok (.sipush 1000, 3) := by decide +kernel
theorem dX13_lay_45 : decode cX13_lay 45 = .ok (.if_icmp .ge 24, 3) := by decide +kernel
theorem dX13_lay_48 : decode cX13_lay 48 = .ok (.aload_n 0, 1) := by decide +kernel
theorem dX13_lay_49 : decode cX13_lay 49 = .ok (.getfield 14, 3) := by decide +kernel
theorem dX13_lay_52 : decode cX13_lay 52 = .ok (.aload_n 0, 1) := by decide +kernel
theorem dX13_lay_53 : decode cX13_lay 53 = .ok (.getfield 11, 3) := by decide +kernel
theorem dX13_lay_56 : decode cX13_lay 56 = .ok (.iload 4, 2) := by decide +kernel
theorem dX13_lay_58 : decode cX13_lay 58 = .ok (.iastore, 1) := by decide +kernel
theorem dX13_lay_59 : decode cX13_lay 59 = .ok (.aload_n 0, 1) := by decide +kernel
theorem dX13_lay_60 : decode cX13_lay 60 = .ok (.dup, 1) := by decide +kernel
theorem dX13_lay_61 : decode cX13_lay 61 = .ok (.getfield 11, 3) := by decide +kernel
theorem dX13_lay_64 : decode cX13_lay 64 = .ok (.iconst 1, 1) := by decide +kernel
theorem dX13_lay_65 : decode cX13_lay 65 = .ok (.iadd, 1) := by decide +kernel
theorem dX13_lay_66 : decode cX13_lay 66 = .ok (.putfield 11, 3) := by decide +kernel
theorem dX13_lay_69 : decode cX13_lay 69 = .ok (.iinc 3 (-8), 3) := by decide +kernel
theorem dX13_lay_72 : decode cX13_lay 72 = .ok (.goto (-69), 3) := by decide +kernel
theorem dX13_lay_75 : decode cX13_lay 75 = .ok (.return_, 1) := by decide +kernel
theorem dX13_cutAll_0 : decode cX13_cutAll 0 = .ok (.aload_n 0, 1) := by decide +kernel
theorem dX13_cutAll_1 : decode cX13_cutAll 1 = .ok (.aload_n 0, 1) := by decide +kernel
theorem dX13_cutAll_2 : decode cX13_cutAll 2 = .ok (.getfield 11, 3) := by decide +kernel
theorem dX13_cutAll_5 : decode cX13_cutAll 5 = .ok (.putfield 171, 3) := by decide +kernel
theorem dX13_cutAll_8 : decode cX13_cutAll 8 = .ok (.aload_n 0, 1) := by decide +kernel
theorem dX13_cutAll_9 : decode cX13_cutAll 9 = .ok (.iconst 0, 1) := by decide +kernel
theorem dX13_cutAll_10 : decode cX13_cutAll 10 = .ok (.putfield 11, 3) := by decide +kernel
theorem dX13_cutAll_13 : decode cX13_cutAll 13 = .ok (.iconst 0, 1) := by decide +kernel
theorem dX13_cutAll_14 : decode cX13_cutAll 14 = .ok (.istore_n 1, 1) := by decide +kernel
theorem dX13_cutAll_15 : decode cX13_cutAll 15 = .ok (.iconst 0, 1) := by decide +kernel
theorem dX13_cutAll_16 : decode cX13_cutAll 16 = .ok (.istore_n 2, 1) := by decide +kernel
theorem dX13_cutAll_17 : decode cX13_cutAll 17 = .ok (.iload_n 2, 1) := by decide +kernel
theorem dX13_cutAll_18 : decode cX13_cutAll 18 = .ok (.aload_n 0, 1) := by decide +kernel
theorem dX13_cutAll_19 : decode cX13_cutAll 19 = .ok (.getfield 171, 3) := by decide +kernel
theorem dX13_cutAll_22 : decode cX13_cutAll 22 = .ok (.if_icmp .ge 257, 3) := by decide +kernel
theorem dX13_cutAll_25 : decode cX13_cutAll 25 = .ok (.aload_n 0, 1) := by decide +kernel
theorem dX13_cutAll_26 : decode cX13_cutAll 26 = .ok (.getfield 14, 3) := by decide +kernel
theorem dX13_cutAll_29 : decode cX13_cutAll 29 = .ok (.iload_n 2, 1) := by decide +kernel
theorem dX13_cutAll_30 : decode cX13_cutAll 30 = .ok (.iaload, 1) := by decide +kernel
theorem dX13_cutAll_31 : decode cX13_cutAll 31 = .ok (.istore_n 3, 1) := by decide +kernel
theorem dX13_cutAll_32 : decode cX13_cutAll 32 = .ok (.iload_n 3, 1) := by decide +kernel
theorem dX13_cutAll_33 : decode cX13_cutAll 33 = .ok (.bipush 10, 2) := by decide +kernel
theorem dX13_cutAll_35 : decode cX13_cutAll 35 = .ok (.if_icmp .eq 9, 3) := by decide +kernel
theorem dX13_cutAll_38 : decode cX13_cutAll 38 = .ok (.iload_n 3, 1) := by decide +kernel
theorem dX13_cutAll_39 : decode cX13_cutAll 39 = .ok (.bipush 32, 2) := by decide +kernel
theorem dX13_cutAll_41 : decode cX13_cutAll 41 = .ok (.if_icmp .ne 9, 3) := by decide +kernel
theorem dX13_cutAll_44 : decode cX13_cutAll 44 = .ok (.iinc 2 1, 3) := by decide +kernel
theorem dX13_cutAll_47 : decode cX13_cutAll 47 = .ok (.goto (-30), 3) := by decide +kernel
theorem dX13_cutAll_50 : decode cX13_cutAll 50 = .ok (.iload_n 2, 1) := by decide +kernel
theorem dX13_cutAll_51 : decode cX13_cutAll 51 = .ok (.istore 4, 2) := by decide +kernel
theorem dX13_cutAll_53 : decode cX13_cutAll 53 = .ok (.lconst 0, 1) := by decide +kernel
theorem dX13_cutAll_54 : decode cX13_cutAll 54 = .ok (.lstore 5, 2) := by decide +kernel
theorem dX13_cutAll_56 : decode cX13_cutAll 56 = .ok (.aload_n 0, 1) := by decide +kernel
theorem dX13_cutAll_57 : decode cX13_cutAll 57 = .ok (.getfield 27, 3) := by decide +kernel
theorem dX13_cutAll_60 : decode cX13_cutAll 60 = .ok (.iload_n 1, 1) := by decide +kernel
theorem dX13_cutAll_61 : decode cX13_cutAll 61 = .ok (.iload_n 2, 1) := by decide +kernel
theorem dX13_cutAll_62 : decode cX13_cutAll 62 = .ok (.iastore, 1) := by decide +kernel
theorem dX13_cutAll_63 : decode cX13_cutAll 63 = .ok (.iload_n 3, 1) := by decide +kernel
theorem dX13_cutAll_64 : decode cX13_cutAll 64 = .ok (.invokestatic 167, 3) := by decide +kernel
theorem dX13_cutAll_67 : decode cX13_cutAll 67 = .ok (.ifCond .eq 85, 3) := by decide +kernel
theorem dX13_cutAll_70 : decode cX13_cutAll 70 = .ok (.iload_n 2, 1) := by decide +kernel
theorem dX13_cutAll_71 : decode cX13_cutAll 71 = .ok (.aload_n 0, 1) := by decide +kernel
theorem dX13_cutAll_72 : decode cX13_cutAll 72 = .ok (.getfield 171, 3) := by decide +kernel
theorem dX13_cutAll_75 : decode cX13_cutAll 75 = .ok (.if_icmp .ge 54, 3) := by decide +kernel
theorem dX13_cutAll_78 : decode cX13_cutAll 78 = .ok (.aload_n 0, 1) := by decide +kernel
theorem dX13_cutAll_79 : decode cX13_cutAll 79 = .ok (.getfield 14, 3) := by decide +kernel
theorem dX13_cutAll_82 : decode cX13_cutAll 82 = .ok (.iload_n 2, 1) := by decide +kernel
theorem dX13_cutAll_83 : decode cX13_cutAll 83 = .ok (.iaload, 1) := by decide +kernel
theorem dX13_cutAll_84 : decode cX13_cutAll 84 = .ok (.invokestatic 167, 3) := by decide +kernel
theorem dX13_cutAll_87 : decode cX13_cutAll 87 = .ok (.ifCond .eq 42, 3) := by decide +kernel
theorem dX13_cutAll_90 : decode cX13_cutAll 90 = .ok (.iload_n 2, 1) := by decide +kernel
theorem dX13_cutAll_91 : decode cX13_cutAll 91 = .ok (.iload 4, 2) := by decide +kernel
theorem dX13_cutAll_93 : decode cX13_cutAll 93 = .ok (.isub, 1) := by decide +kernel
theorem dX13_cutAll_94 : decode cX13_cutAll 94 = .ok (.bipush 8, 2) := by decide +kernel
theorem dX13_cutAll_96 : decode cX13_cutAll 96 = .ok (.if_icmp .ge 23, 3) := by decide +kernel
theorem dX13_cutAll_99 : decode cX13_cutAll 99 = .ok (.ldc2_w 174, 3) := by decide +kernel
theorem dX13_cutAll_102 : decode cX13_cutAll 102 = .ok (.lload 5, 2) := by decide +kernel
theorem dX13_cutAll_104 : decode cX13_cutAll 104 = .ok (.lmul, 1) := by decide +kernel
theorem dX13_cutAll_105 : decode cX13_cutAll 105 = .ok (.aload_n 0, 1) := by decide +kernel
theorem dX13_cutAll_106 : decode cX13_cutAll 106 = .ok (.getfield 14, 3) := by decide +kernel
theorem dX13_cutAll_109 : decode cX13_cutAll 109 = .ok (.iload_n 2, 1) := by decide +kernel
theorem dX13_cutAll_110 : decode cX13_cutAll 110 = .ok (.iaload, 1) := by decide +kernel
theorem dX13_cutAll_111 : decode cX13_cutAll 111 = .ok (.invokestatic 176, 3) := by decide +kernel
theorem dX13_cutAll_114 : decode cX13_cutAll 114 = .ok (.i2l, 1) := by decide +kernel
theorem dX13_cutAll_115 : decode cX13_cutAll 115 = .ok (.ladd, 1) := by decide +kernel
theorem dX13_cutAll_116 : decode cX13_cutAll 116 = .ok (.goto 5, 3) := by decide +kernel
theorem dX13_cutAll_119 : decode cX13_cutAll 119 = .ok (.lload 5, 2) := by decide +kernel
theorem dX13_cutAll_121 : decode cX13_cutAll 121 = .ok (.lstore 5, 2) := by decide +kernel
theorem dX13_cutAll_123 : decode cX13_cutAll 123 = .ok (.iinc 2 1, 3) := by decide +kernel
theorem dX13_cutAll_126 : decode cX13_cutAll 126 = .ok (.goto (-56), 3) := by decide +kernel
theorem dX13_cutAll_129 : decode cX13_cutAll 129 = .ok (.aload_n 0, 1) := by decide +kernel
theorem dX13_cutAll_130 : decode cX13_cutAll 130 = .ok (.getfield 24, 3) := by decide +kernel
theorem dX13_cutAll_133 : decode cX13_cutAll 133 = .ok (.iload_n 1, 1) := by decide +kernel
theorem dX13_cutAll_134 : decode cX13_cutAll 134 = .ok (.iload_n 2, 1) := by decide +kernel
theorem dX13_cutAll_135 : decode cX13_cutAll 135 = .ok (.iload 4, 2) := by decide +kernel
theorem dX13_cutAll_137 : decode cX13_cutAll 137 = .ok (.isub, 1) := by decide +kernel
theorem dX13_cutAll_138 : decode cX13_cutAll 138 = .ok (.bipush 8, 2) := by decide +kernel
theorem dX13_cutAll_140 : decode cX13_cutAll 140 = .ok (.if_icmp .le 7, 3) := by decide +kernel
theorem dX13_cutAll_143 : decode cX13_cutAll 143 = .ok (.iconst 4, 1) := by decide +kernel
theorem dX13_cutAll_144 : decode cX13_cutAll 144 = .ok (.goto 4, 3) := by decide +kernel
theorem dX13_cutAll_147 : decode cX13_cutAll 147 = .ok (.iconst 1, 1) := by decide +kernel
theorem dX13_cutAll_148 : decode cX13_cutAll 148 = .ok (.iastore, 1) := by decide +kernel
theorem dX13_cutAll_149 : decode cX13_cutAll 149 = .ok (.goto 116, 3) := by decide +kernel
theorem dX13_cutAll_152 : decode cX13_cutAll 152 = .ok (.iload_n 3, 1) := by decide +kernel
theorem dX13_cutAll_153 : decode cX13_cutAll 153 = .ok (.invokestatic 180, 3) := by decide +kernel
theorem dX13_cutAll_156 : decode cX13_cutAll 156 = .ok (.ifCond .eq 84, 3) := by decide +kernel
theorem dX13_cutAll_159 : decode cX13_cutAll 159 = .ok (.iload_n 2, 1) := by decide +kernel
theorem dX13_cutAll_160 : decode cX13_cutAll 160 = .ok (.aload_n 0, 1) := by decide +kernel
theorem dX13_cutAll_161 : decode cX13_cutAll 161 = .ok (.getfield 171, 3) := by decide +kernel
theorem dX13_cutAll_164 : decode cX13_cutAll 164 = .ok (.if_icmp .ge 54, 3) := by decide +kernel
theorem dX13_cutAll_167 : decode cX13_cutAll 167 = .ok (.aload_n 0, 1) := by decide +kernel
theorem dX13_cutAll_168 : decode cX13_cutAll 168 = .ok (.getfield 14, 3) := by decide +kernel
theorem dX13_cutAll_171 : decode cX13_cutAll 171 = .ok (.iload_n 2, 1) := by decide +kernel
theorem dX13_cutAll_172 : decode cX13_cutAll 172 = .ok (.iaload, 1) := by decide +kernel
theorem dX13_cutAll_173 : decode cX13_cutAll 173 = .ok (.invokestatic 180, 3) := by decide +kernel
theorem dX13_cutAll_176 : decode cX13_cutAll 176 = .ok (.ifCond .eq 42, 3) := by decide +kernel
theorem dX13_cutAll_179 : decode cX13_cutAll 179 = .ok (.iload_n 2, 1) := by decide +kernel
theorem dX13_cutAll_180 : decode cX13_cutAll 180 = .ok (.iload 4, 2) := by decide +kernel
theorem dX13_cutAll_182 : decode cX13_cutAll 182 = .ok (.isub, 1) := by decide +kernel
theorem dX13_cutAll_183 : decode cX13_cutAll 183 = .ok (.iconst 4, 1) := by decide +kernel
theorem dX13_cutAll_184 : decode cX13_cutAll 184 = .ok (.if_icmp .ge 24, 3) := by decide +kernel
theorem dX13_cutAll_187 : decode cX13_cutAll 187 = .ok (.ldc2_w 183, 3) := by decide +kernel
theorem dX13_cutAll_190 : decode cX13_cutAll 190 = .ok (.lload 5, 2) := by decide +kernel
theorem dX13_cutAll_192 : decode cX13_cutAll 192 = .ok (.lmul, 1) := by decide +kernel
theorem dX13_cutAll_193 : decode cX13_cutAll 193 = .ok (.aload_n 0, 1) := by decide +kernel
theorem dX13_cutAll_194 : decode cX13_cutAll 194 = .ok (.getfield 14, 3) := by decide +kernel
theorem dX13_cutAll_197 : decode cX13_cutAll 197 = .ok (.iload_n 2, 1) := by decide +kernel
theorem dX13_cutAll_198 : decode cX13_cutAll 198 = .ok (.iaload, 1) := by decide +kernel
theorem dX13_cutAll_199 : decode cX13_cutAll 199 = .ok (.i2l, 1) := by decide +kernel
theorem dX13_cutAll_200 : decode cX13_cutAll 200 = .ok (.ladd, 1) := by decide +kernel
theorem dX13_cutAll_201 : decode cX13_cutAll 201 = .ok (.ldc2_w 185, 3) := by decide +kernel
theorem dX13_cutAll_204 : decode cX13_cutAll 204 = .ok (.lsub, 1) := by decide +kernel
theorem dX13_cutAll_205 : decode cX13_cutAll 205 = .ok (.goto 5, 3) := by decide +kernel
theorem dX13_cutAll_208 : decode cX13_cutAll 208 = .ok (.lload 5, 2) := by decide +kernel
theorem dX13_cutAll_210 : decode cX13_cutAll 210 = .ok (.lstore 5, 2) := by decide +kernel
theorem dX13_cutAll_212 : decode cX13_cutAll 212 = .ok (.iinc 2 1, 3) := by decide +kernel
theorem dX13_cutAll_215 : decode cX13_cutAll 215 = .ok (.goto (-56), 3) := by decide +kernel
theorem dX13_cutAll_218 : decode cX13_cutAll 218 = .ok (.aload_n 0, 1) := by decide +kernel
theorem dX13_cutAll_219 : decode cX13_cutAll 219 = .ok (.getfield 24, 3) := by decide +kernel
theorem dX13_cutAll_222 : decode cX13_cutAll 222 = .ok (.iload_n 1, 1) := by decide +kernel
theorem dX13_cutAll_223 : decode cX13_cutAll 223 = .ok (.iload_n 2, 1) := by decide +kernel
theorem dX13_cutAll_224 : decode cX13_cutAll 224 = .ok (.iload 4, 2) := by decide +kernel
theorem dX13_cutAll_226 : decode cX13_cutAll 226 = .ok (.isub, 1) := by decide +kernel
theorem dX13_cutAll_227 : decode cX13_cutAll 227 = .ok (.iconst 4, 1) := by decide +kernel
theorem dX13_cutAll_228 : decode cX13_cutAll 228 = .ok (.if_icmp .le 7, 3) := by decide +kernel
theorem dX13_cutAll_231 : decode cX13_cutAll 231 = .ok (.iconst 4, 1) := by decide +kernel
theorem dX13_cutAll_232 : decode cX13_cutAll 232 = .ok (.goto 4, 3) := by decide +kernel
theorem dX13_cutAll_235 : decode cX13_cutAll 235 = .ok (.iconst 2, 1) := by decide +kernel
theorem dX13_cutAll_236 : decode cX13_cutAll 236 = .ok (.iastore, 1) := by decide +kernel
theorem dX13_cutAll_237 : decode cX13_cutAll 237 = .ok (.goto 28, 3) := by decide +kernel
theorem dX13_cutAll_240 : decode cX13_cutAll 240 = .ok (.iload_n 3, 1) := by decide +kernel
theorem dX13_cutAll_241 : decode cX13_cutAll 241 = .ok (.i2l, 1) := by decide +kernel
theorem dX13_cutAll_242 : decode cX13_cutAll 242 = .ok (.lstore 5, 2) := by decide +kernel
theorem dX13_cutAll_244 : decode cX13_cutAll 244 = .ok (.aload_n 0, 1) := by decide +kernel
theorem dX13_cutAll_245 : decode cX13_cutAll 245 = .ok (.getfield 24, 3) := by decide +kernel
theorem dX13_cutAll_248 : decode cX13_cutAll 248 = .ok (.iload_n 1, 1) := by decide +kernel
theorem dX13_cutAll_249 : decode cX13_cutAll 249 = .ok (.iload_n 3, 1) := by decide +kernel
theorem dX13_cutAll_250 : decode cX13_cutAll 250 = .ok (.invokestatic 187, 3) := by decide +kernel
theorem dX13_cutAll_253 : decode cX13_cutAll 253 = .ok (.ifCond .eq 7, 3) := by decide +kernel
theorem dX13_cutAll_256 : decode cX13_cutAll 256 = .ok (.iconst 3, 1) := by decide +kernel
theorem dX13_cutAll_257 : decode cX13_cutAll 257 = .ok (.goto 4, 3) := by decide +kernel
theorem dX13_cutAll_260 : decode cX13_cutAll 260 = .ok (.iconst 4, 1) := by decide +kernel
theorem dX13_cutAll_261 : decode cX13_cutAll 261 = .ok (.iastore, 1) := by decide +kernel
theorem dX13_cutAll_262 : decode cX13_cutAll 262 = .ok (.iinc 2 1, 3) := by decide +kernel
theorem dX13_cutAll_265 : decode cX13_cutAll 265 = .ok (.aload_n 0, 1) := by decide +kernel
theorem dX13_cutAll_266 : decode cX13_cutAll 266 = .ok (.getfield 30, 3) := by decide +kernel
theorem dX13_cutAll_269 : decode cX13_cutAll 269 = .ok (.iload_n 1, 1) := by decide +kernel
theorem dX13_cutAll_270 : decode cX13_cutAll 270 = .ok (.lload 5, 2) := by decide +kernel
theorem dX13_cutAll_272 : decode cX13_cutAll 272 = .ok (.lastore, 1) := by decide +kernel
theorem dX13_cutAll_273 : decode cX13_cutAll 273 = .ok (.iinc 1 1, 3) := by decide +kernel
theorem dX13_cutAll_276 : decode cX13_cutAll 276 = .ok (.goto (-259), 3) := by decide +kernel
theorem dX13_cutAll_279 : decode cX13_cutAll 279 = .ok (.aload_n 0, 1) := by decide +kernel
theorem dX13_cutAll_280 : decode cX13_cutAll 280 = .ok (.getfield 24, 3) := by decide +kernel
theorem dX13_cutAll_283 : decode cX13_cutAll 283 = .ok (.iload_n 1, 1) := by decide +kernel
theorem dX13_cutAll_284 : decode cX13_cutAll 284 = .ok (.iconst 0, 1) := by decide +kernel
theorem dX13_cutAll_285 : decode cX13_cutAll 285 = .ok (.iastore, 1) := by decide +kernel
theorem dX13_cutAll_286 : decode cX13_cutAll 286 = .ok (.aload_n 0, 1) := by decide +kernel
theorem dX13_cutAll_287 : decode cX13_cutAll 287 = .ok (.getfield 27, 3) := by decide +kernel
theorem dX13_cutAll_290 : decode cX13_cutAll 290 = .ok (.iload_n 1, 1) := by decide +kernel
theorem dX13_cutAll_291 : decode cX13_cutAll 291 = .ok (.aload_n 0, 1) := by decide +kernel
theorem dX13_cutAll_292 : decode cX13_cutAll 292 = .ok (.getfield 171, 3) := by decide +kernel
theorem dX13_cutAll_295 : decode cX13_cutAll 295 = .ok (.iastore, 1) := by decide +kernel
theorem dX13_cutAll_296 : decode cX13_cutAll 296 = .ok (.aload_n 0, 1) := by decide +kernel
theorem dX13_cutAll_297 : decode cX13_cutAll 297 = .ok (.iconst 0, 1) := by decide +kernel
theorem dX13_cutAll_298 : decode cX13_cutAll 298 = .ok (.putfield 190, 3) := by decide +kernel
theorem dX13_cutAll_301 : decode cX13_cutAll 301 = .ok (.aload_n 0, 1) := by decide +kernel
theorem dX13_cutAll_302 : decode cX13_cutAll 302 = .ok (.iconst 0, 1) := by decide +kernel
theorem dX13_cutAll_303 : decode cX13_cutAll 303 = .ok (.putfield 193, 3) := by decide +kernel
theorem dX13_cutAll_306 : decode cX13_cutAll 306 = .ok (.return_, 1) := by decide +kernel
theorem dX13_land_0 : decode cX13_land 0 = .ok (.aload_n 0, 1) := by decide +kernel
theorem dX13_land_1 : decode cX13_land 1 = .ok (.iconst 0, 1) := by decide +kernel
theorem dX13_land_2 : decode cX13_land 2 = .ok (.putfield 1, 3) := by decide +kernel
theorem dX13_land_5 : decode cX13_land 5 = .ok (.aload_n 0, 1) := by decide +kernel
theorem dX13_land_6 : decode cX13_land 6 = .ok (.invokevirtual 226, 3) := by decide +kernel
theorem dX13_land_9 : decode cX13_land 9 = .ok (.aload_n 0, 1) := by decide +kernel
theorem dX13_land_10 : decode cX13_land 10 = .ok (.iconst 0, 1) := by decide +kernel
theorem dX13_land_11 : decode cX13_land 11 = .ok (.putfield 229, 3) := by decide +kernel
theorem dX13_land_14 : decode cX13_land 14 = .ok (.aload_n 0, 1) := by decide +kernel
theorem dX13_land_15 : decode cX13_land 15 = .ok (.iconst 0, 1) := by decide +kernel
theorem dX13_land_16 : decode cX13_land 16 = .ok (.putfield 232, 3) := by decide +kernel
theorem dX13_land_19 : decode cX13_land 19 = .ok (.aload_n 0, 1) := by decide +kernel
theorem dX13_land_20 : decode cX13_land 20 = .ok (.bipush 110, 2) := by decide +kernel
theorem dX13_land_22 : decode cX13_land 22 = .ok (.invokevirtual 160, 3) := by decide +kernel
theorem dX13_land_25 : decode cX13_land 25 = .ok (.aload_n 0, 1) := by decide +kernel
theorem dX13_land_26 : decode cX13_land 26 = .ok (.getfield 193, 3) := by decide +kernel
theorem dX13_land_29 : decode cX13_land 29 = .ok (.ifCond .ne 59, 3) := by decide +kernel
theorem dX13_land_32 : decode cX13_land 32 = .ok (.aload_n 0, 1) := by decide +kernel
theorem dX13_land_33 : decode cX13_land 33 = .ok (.getfield 24, 3) := by decide +kernel
theorem dX13_land_36 : decode cX13_land 36 = .ok (.aload_n 0, 1) := by decide +kernel
theorem dX13_land_37 : decode cX13_land 37 = .ok (.getfield 190, 3) := by decide +kernel
theorem dX13_land_40 : decode cX13_land 40 = .ok (.iaload, 1) := by decide +kernel
theorem dX13_land_41 : decode cX13_land 41 = .ok (.ifCond .eq 47, 3) := by decide +kernel
theorem dX13_land_44 : decode cX13_land 44 = .ok (.aload_n 0, 1) := by decide +kernel
theorem dX13_land_45 : decode cX13_land 45 = .ok (.iconst 0, 1) := by decide +kernel
theorem dX13_land_46 : decode cX13_land 46 = .ok (.invokevirtual 202, 3) := by decide +kernel
theorem dX13_land_49 : decode cX13_land 49 = .ok (.ifCond .eq 10, 3) := by decide +kernel
theorem dX13_land_52 : decode cX13_land 52 = .ok (.aload_n 0, 1) := by decide +kernel
theorem dX13_land_53 : decode cX13_land 53 = .ok (.invokevirtual 235, 3) := by decide +kernel
theorem dX13_land_56 : decode cX13_land 56 = .ok (.goto 23, 3) := by decide +kernel
theorem dX13_land_59 : decode cX13_land 59 = .ok (.aload_n 0, 1) := by decide +kernel
theorem dX13_land_60 : decode cX13_land 60 = .ok (.bipush 9, 2) := by decide +kernel
theorem dX13_land_62 : decode cX13_land 62 = .ok (.invokevirtual 202, 3) := by decide +kernel
theorem dX13_land_65 : decode cX13_land 65 = .ok (.ifCond .eq 10, 3) := by decide +kernel
theorem dX13_land_68 : decode cX13_land 68 = .ok (.aload_n 0, 1) := by decide +kernel
theorem dX13_land_69 : decode cX13_land 69 = .ok (.invokevirtual 238, 3) := by decide +kernel
theorem dX13_land_72 : decode cX13_land 72 = .ok (.goto 7, 3) := by decide +kernel
theorem dX13_land_75 : decode cX13_land 75 = .ok (.aload_n 0, 1) := by decide +kernel
theorem dX13_land_76 : decode cX13_land 76 = .ok (.invokevirtual 241, 3) := by decide +kernel
theorem dX13_land_79 : decode cX13_land 79 = .ok (.aload_n 0, 1) := by decide +kernel
theorem dX13_land_80 : decode cX13_land 80 = .ok (.bipush 59, 2) := by decide +kernel
theorem dX13_land_82 : decode cX13_land 82 = .ok (.invokevirtual 244, 3) := by decide +kernel
theorem dX13_land_85 : decode cX13_land 85 = .ok (.goto (-60), 3) := by decide +kernel
theorem dX13_land_88 : decode cX13_land 88 = .ok (.aload_n 0, 1) := by decide +kernel
theorem dX13_land_89 : decode cX13_land 89 = .ok (.getfield 193, 3) := by decide +kernel
theorem dX13_land_92 : decode cX13_land 92 = .ok (.ifCond .le 8, 3) := by decide +kernel
theorem dX13_land_95 : decode cX13_land 95 = .ok (.aload_n 0, 1) := by decide +kernel
theorem dX13_land_96 : decode cX13_land 96 = .ok (.getfield 193, 3) := by decide +kernel
theorem dX13_land_99 : decode cX13_land 99 = .ok (.ireturn, 1) := by decide +kernel
theorem dX13_land_100 : decode cX13_land 100 = .ok (.iconst 0, 1) := by decide +kernel
theorem dX13_land_101 : decode cX13_land 101 = .ok (.istore_n 1, 1) := by decide +kernel
theorem dX13_land_102 : decode cX13_land 102 = .ok (.iload_n 1, 1) := by decide +kernel
theorem dX13_land_103 : decode cX13_land 103 = .ok (.bipush 110, 2) := by decide +kernel
theorem dX13_land_105 : decode cX13_land 105 = .ok (.if_icmp .ge 24, 3) := by decide +kernel
theorem dX13_land_108 : decode cX13_land 108 = .ok (.aload_n 0, 1) := by decide +kernel
theorem dX13_land_109 : decode cX13_land 109 = .ok (.getfield 99, 3) := by decide +kernel
theorem dX13_land_112 : decode cX13_land 112 = .ok (.iload_n 1, 1) := by decide +kernel
theorem dX13_land_113 : decode cX13_land 113 = .ok (.aload_n 0, 1) := by decide +kernel
theorem dX13_land_114 : decode cX13_land 114 = .ok (.getfield 99, 3) := by decide +kernel
theorem dX13_land_117 : decode cX13_land 117 = .ok (.bipush 110, 2) := by decide +kernel
theorem dX13_land_119 : decode cX13_land 119 = .ok (.iload_n 1, 1) := by decide +kernel
theorem dX13_land_120 : decode cX13_land 120 = .ok (.iadd, 1) := by decide +kernel
theorem dX13_land_121 : decode cX13_land 121 = .ok (.iaload, 1) := by decide +kernel
theorem dX13_land_122 : decode cX13_land 122 = .ok (.iastore, 1) := by decide +kernel
theorem dX13_land_123 : decode cX13_land 123 = .ok (.iinc 1 1, 3) := by decide +kernel
theorem dX13_land_126 : decode cX13_land 126 = .ok (.goto (-24), 3) := by decide +kernel
theorem dX13_land_129 : decode cX13_land 129 = .ok (.iconst 0, 1) := by decide +kernel
theorem dX13_land_130 : decode cX13_land 130 = .ok (.istore_n 1, 1) := by decide +kernel
theorem dX13_land_131 : decode cX13_land 131 = .ok (.iload_n 1, 1) := by decide +kernel
theorem dX13_land_132 : decode cX13_land 132 = .ok (.aload_n 0, 1) := by decide +kernel
theorem dX13_land_133 : decode cX13_land 133 = .ok (.getfield 229, 3) := by decide +kernel
theorem dX13_land_136 : decode cX13_land 136 = .ok (.if_icmp .ge 41, 3) := by decide +kernel
theorem dX13_land_139 : decode cX13_land 139 = .ok (.aload_n 0, 1) := by decide +kernel
theorem dX13_land_140 : decode cX13_land 140 = .ok (.getfield 102, 3) := by decide +kernel
theorem dX13_land_143 : decode cX13_land 143 = .ok (.iload_n 1, 1) := by decide +kernel
theorem dX13_land_144 : decode cX13_land 144 = .ok (.aload_n 0, 1) := by decide +kernel
theorem dX13_land_145 : decode cX13_land 145 = .ok (.getfield 102, 3) := by decide +kernel
theorem dX13_land_148 : decode cX13_land 148 = .ok (.sipush 1100, 3) := by decide +kernel
theorem dX13_land_151 : decode cX13_land 151 = .ok (.iload_n 1, 1) := by decide +kernel
theorem dX13_land_152 : decode cX13_land 152 = .ok (.iadd, 1) := by decide +kernel
theorem dX13_land_153 : decode cX13_land 153 = .ok (.iaload, 1) := by decide +kernel
theorem dX13_land_154 : decode cX13_land 154 = .ok (.iastore, 1) := by decide +kernel
theorem dX13_land_155 : decode cX13_land 155 = .ok (.aload_n 0, 1) := by decide +kernel
theorem dX13_land_156 : decode cX13_land 156 = .ok (.getfield 105, 3) := by decide +kernel
theorem dX13_land_159 : decode cX13_land 159 = .ok (.iload_n 1, 1) := by decide +kernel
theorem dX13_land_160 : decode cX13_land 160 = .ok (.aload_n 0, 1) := by decide +kernel
theorem dX13_land_161 : decode cX13_land 161 = .ok (.getfield 105, 3) := by decide +kernel
theorem dX13_land_164 : decode cX13_land 164 = .ok (.sipush 1100, 3) := by decide +kernel
theorem dX13_land_167 : decode cX13_land 167 = .ok (.iload_n 1, 1) := by decide +kernel
theorem dX13_land_168 : decode cX13_land 168 = .ok (.iadd, 1) := by decide +kernel
theorem dX13_land_169 : decode cX13_land 169 = .ok (.iaload, 1) := by decide +kernel
theorem dX13_land_170 : decode cX13_land 170 = .ok (.iastore, 1) := by decide +kernel
theorem dX13_land_171 : decode cX13_land 171 = .ok (.iinc 1 1, 3) := by decide +kernel
theorem dX13_land_174 : decode cX13_land 174 = .ok (.goto (-43), 3) := by decide +kernel
theorem dX13_land_177 : decode cX13_land 177 = .ok (.iconst 0, 1) := by decide +kernel
theorem dX13_land_178 : decode cX13_land 178 = .ok (.istore_n 1, 1) := by decide +kernel
theorem dX13_land_179 : decode cX13_land 179 = .ok (.iload_n 1, 1) := by decide +kernel
theorem dX13_land_180 : decode cX13_land 180 = .ok (.bipush 6, 2) := by decide +kernel
theorem dX13_land_182 : decode cX13_land 182 = .ok (.if_icmp .ge 21, 3) := by decide +kernel
theorem dX13_land_185 : decode cX13_land 185 = .ok (.aload_n 0, 1) := by decide +kernel
theorem dX13_land_186 : decode cX13_land 186 = .ok (.getfield 108, 3) := by decide +kernel
theorem dX13_land_189 : decode cX13_land 189 = .ok (.iload_n 1, 1) := by decide +kernel
theorem dX13_land_190 : decode cX13_land 190 = .ok (.aload_n 0, 1) := by decide +kernel
theorem dX13_land_191 : decode cX13_land 191 = .ok (.getfield 111, 3) := by decide +kernel
theorem dX13_land_194 : decode cX13_land 194 = .ok (.iload_n 1, 1) := by decide +kernel
theorem dX13_land_195 : decode cX13_land 195 = .ok (.laload, 1) := by decide +kernel
theorem dX13_land_196 : decode cX13_land 196 = .ok (.lastore, 1) := by decide +kernel
theorem dX13_land_197 : decode cX13_land 197 = .ok (.iinc 1 1, 3) := by decide +kernel
theorem dX13_land_200 : decode cX13_land 200 = .ok (.goto (-21), 3) := by decide +kernel
theorem dX13_land_203 : decode cX13_land 203 = .ok (.aload_n 0, 1) := by decide +kernel
theorem dX13_land_204 : decode cX13_land 204 = .ok (.invokevirtual 164, 3) := by decide +kernel
theorem dX13_land_207 : decode cX13_land 207 = .ok (.iconst 0, 1) := by decide +kernel
theorem dX13_land_208 : decode cX13_land 208 = .ok (.ireturn, 1) := by decide +kernel
theorem dX13_vows_0 : decode cX13_vows 0 = .ok (.aload_n 0, 1) := by decide +kernel
theorem dX13_vows_1 : decode cX13_vows 1 = .ok (.iconst 0, 1) := by decide +kernel
theorem dX13_vows_2 : decode cX13_vows 2 = .ok (.putfield 1, 3) := by decide +kernel
theorem dX13_vows_5 : decode cX13_vows 5 = .ok (.aload_n 0, 1) := by decide +kernel
theorem dX13_vows_6 : decode cX13_vows 6 = .ok (.invokevirtual 226, 3) := by decide +kernel
theorem dX13_vows_9 : decode cX13_vows 9 = .ok (.iconst 0, 1) := by decide +kernel
theorem dX13_vows_10 : decode cX13_vows 10 = .ok (.istore_n 1, 1) := by decide +kernel
theorem dX13_vows_11 : decode cX13_vows 11 = .ok (.aload_n 0, 1) := by decide +kernel
theorem dX13_vows_12 : decode cX13_vows 12 = .ok (.getfield 193, 3) := by decide +kernel
theorem dX13_vows_15 : decode cX13_vows 15 = .ok (.ifCond .ne 240, 3) := by decide +kernel
theorem dX13_vows_18 : decode cX13_vows 18 = .ok (.aload_n 0, 1) := by decide +kernel
theorem dX13_vows_19 : decode cX13_vows 19 = .ok (.getfield 24, 3) := by decide +kernel
theorem dX13_vows_22 : decode cX13_vows 22 = .ok (.aload_n 0, 1) := by decide +kernel
theorem dX13_vows_23 : decode cX13_vows 23 = .ok (.getfield 190, 3) := by decide +kernel
theorem dX13_vows_26 : decode cX13_vows 26 = .ok (.iaload, 1) := by decide +kernel
theorem dX13_vows_27 : decode cX13_vows 27 = .ok (.ifCond .eq 228, 3) := by decide +kernel
theorem dX13_vows_30 : decode cX13_vows 30 = .ok (.aload_n 0, 1) := by decide +kernel
theorem dX13_vows_31 : decode cX13_vows 31 = .ok (.bipush 16, 2) := by decide +kernel
theorem dX13_vows_33 : decode cX13_vows 33 = .ok (.iconst 3, 1) := by decide +kernel
theorem dX13_vows_34 : decode cX13_vows 34 = .ok (.invokevirtual 215, 3) := by decide +kernel
theorem dX13_vows_37 : decode cX13_vows 37 = .ok (.istore_n 2, 1) := by decide +kernel
theorem dX13_vows_38 : decode cX13_vows 38 = .ok (.iload_n 2, 1) := by decide +kernel
theorem dX13_vows_39 : decode cX13_vows 39 = .ok (.ifCond .ge 11, 3) := by decide +kernel
theorem dX13_vows_42 : decode cX13_vows 42 = .ok (.aload_n 0, 1) := by decide +kernel
theorem dX13_vows_43 : decode cX13_vows 43 = .ok (.iconst 1, 1) := by decide +kernel
theorem dX13_vows_44 : decode cX13_vows 44 = .ok (.invokevirtual 199, 3) := by decide +kernel
theorem dX13_vows_47 : decode cX13_vows 47 = .ok (.goto 14, 3) := by decide +kernel
theorem dX13_vows_50 : decode cX13_vows 50 = .ok (.iload_n 1, 1) := by decide +kernel
theorem dX13_vows_51 : decode cX13_vows 51 = .ok (.bipush 24, 2) := by decide +kernel
theorem dX13_vows_53 : decode cX13_vows 53 = .ok (.if_icmp .ne 8, 3) := by decide +kernel
theorem dX13_vows_56 : decode cX13_vows 56 = .ok (.aload_n 0, 1) := by decide +kernel
theorem dX13_vows_57 : decode cX13_vows 57 = .ok (.iconst 5, 1) := by decide +kernel
theorem dX13_vows_58 : decode cX13_vows 58 = .ok (.invokevirtual 199, 3) := by decide +kernel
theorem dX13_vows_61 : decode cX13_vows 61 = .ok (.aload_n 0, 1) := by decide +kernel
theorem dX13_vows_62 : decode cX13_vows 62 = .ok (.dup, 1) := by decide +kernel
theorem dX13_vows_63 : decode cX13_vows 63 = .ok (.getfield 190, 3) := by decide +kernel
theorem dX13_vows_66 : decode cX13_vows 66 = .ok (.aload_n 0, 1) := by decide +kernel
theorem dX13_vows_67 : decode cX13_vows 67 = .ok (.getfield 193, 3) := by decide +kernel
theorem dX13_vows_70 : decode cX13_vows 70 = .ok (.ifCond .le 7, 3) := by decide +kernel
theorem dX13_vows_73 : decode cX13_vows 73 = .ok (.iconst 0, 1) := by decide +kernel
theorem dX13_vows_74 : decode cX13_vows 74 = .ok (.goto 4, 3) := by decide +kernel
theorem dX13_vows_77 : decode cX13_vows 77 = .ok (.iconst 1, 1) := by decide +kernel
theorem dX13_vows_78 : decode cX13_vows 78 = .ok (.iadd, 1) := by decide +kernel
theorem dX13_vows_79 : decode cX13_vows 79 = .ok (.putfield 190, 3) := by decide +kernel
theorem dX13_vows_82 : decode cX13_vows 82 = .ok (.aload_n 0, 1) := by decide +kernel
theorem dX13_vows_83 : decode cX13_vows 83 = .ok (.getfield 193, 3) := by decide +kernel
theorem dX13_vows_86 : decode cX13_vows 86 = .ok (.ifCond .ne 16, 3) := by decide +kernel
theorem dX13_vows_89 : decode cX13_vows 89 = .ok (.iload_n 2, 1) := by decide +kernel
theorem dX13_vows_90 : decode cX13_vows 90 = .ok (.iconst 2, 1) := by decide +kernel
theorem dX13_vows_91 : decode cX13_vows 91 = .ok (.if_icmp .ge 11, 3) := by decide +kernel
theorem dX13_vows_94 : decode cX13_vows 94 = .ok (.aload_n 0, 1) := by decide +kernel
theorem dX13_vows_95 : decode cX13_vows 95 = .ok (.iconst 0, 1) := by decide +kernel
theorem dX13_vows_96 : decode cX13_vows 96 = .ok (.invokevirtual 251, 3) := by decide +kernel
theorem dX13_vows_99 : decode cX13_vows 99 = .ok (.goto 4, 3) := by decide +kernel
theorem dX13_vows_102 : decode cX13_vows 102 = .ok (.iconst (-1), 1) := by decide +kernel
theorem dX13_vows_103 : decode cX13_vows 103 = .ok (.istore_n 3, 1) := by decide +kernel
theorem dX13_vows_104 : decode cX13_vows 104 = .ok (.aload_n 0, 1) := by decide +kernel
theorem dX13_vows_105 : decode cX13_vows 105 = .ok (.dup, 1) := by decide +kernel
theorem dX13_vows_106 : decode cX13_vows 106 = .ok (.getfield 190, 3) := by decide +kernel
theorem dX13_vows_109 : decode cX13_vows 109 = .ok (.aload_n 0, 1) := by decide +kernel
theorem dX13_vows_110 : decode cX13_vows 110 = .ok (.getfield 193, 3) := by decide +kernel
theorem dX13_vows_113 : decode cX13_vows 113 = .ok (.ifCond .ne 12, 3) := by decide +kernel
theorem dX13_vows_116 : decode cX13_vows 116 = .ok (.iload_n 2, 1) := by decide +kernel
theorem dX13_vows_117 : decode cX13_vows 117 = .ok (.iconst 2, 1) := by decide +kernel
theorem dX13_vows_118 : decode cX13_vows 118 = .ok (.if_icmp .ge 7, 3) := by decide +kernel
theorem dX13_vows_121 : decode cX13_vows 121 = .ok (.iconst 1, 1) := by decide +kernel
theorem dX13_vows_122 : decode cX13_vows 122 = .ok (.goto 4, 3) := by decide +kernel
theorem dX13_vows_125 : decode cX13_vows 125 = .ok (.iconst 0, 1) := by decide +kernel
theorem dX13_vows_126 : decode cX13_vows 126 = .ok (.iadd, 1) := by decide +kernel
theorem dX13_vows_127 : decode cX13_vows 127 = .ok (.putfield 190, 3) := by decide +kernel
theorem dX13_vows_130 : decode cX13_vows 130 = .ok (.aload_n 0, 1) := by decide +kernel
theorem dX13_vows_131 : decode cX13_vows 131 = .ok (.getfield 193, 3) := by decide +kernel
theorem dX13_vows_134 : decode cX13_vows 134 = .ok (.ifCond .ne 15, 3) := by decide +kernel
theorem dX13_vows_137 : decode cX13_vows 137 = .ok (.iload_n 2, 1) := by decide +kernel
theorem dX13_vows_138 : decode cX13_vows 138 = .ok (.ifCond .ne 11, 3) := by decide +kernel
theorem dX13_vows_141 : decode cX13_vows 141 = .ok (.aload_n 0, 1) := by decide +kernel
theorem dX13_vows_142 : decode cX13_vows 142 = .ok (.iconst 0, 1) := by decide +kernel
theorem dX13_vows_143 : decode cX13_vows 143 = .ok (.invokevirtual 251, 3) := by decide +kernel
theorem dX13_vows_146 : decode cX13_vows 146 = .ok (.goto 4, 3) := by decide +kernel
theorem dX13_vows_149 : decode cX13_vows 149 = .ok (.iconst (-1), 1) := by decide +kernel
theorem dX13_vows_150 : decode cX13_vows 150 = .ok (.istore 4, 2) := by decide +kernel
theorem dX13_vows_152 : decode cX13_vows 152 = .ok (.aload_n 0, 1) := by decide +kernel
theorem dX13_vows_153 : decode cX13_vows 153 = .ok (.getfield 193, 3) := by decide +kernel
theorem dX13_vows_156 : decode cX13_vows 156 = .ok (.ifCond .ne 18, 3) := by decide +kernel
theorem dX13_vows_159 : decode cX13_vows 159 = .ok (.iload_n 2, 1) := by decide +kernel
theorem dX13_vows_160 : decode cX13_vows 160 = .ok (.ifCond .ne 14, 3) := by decide +kernel
theorem dX13_vows_163 : decode cX13_vows 163 = .ok (.iload 4, 2) := by decide +kernel
theorem dX13_vows_165 : decode cX13_vows 165 = .ok (.iload_n 3, 1) := by decide +kernel
theorem dX13_vows_166 : decode cX13_vows 166 = .ok (.if_icmp .ne 8, 3) := by decide +kernel
theorem dX13_vows_169 : decode cX13_vows 169 = .ok (.aload_n 0, 1) := by decide +kernel
theorem dX13_vows_170 : decode cX13_vows 170 = .ok (.iconst 3, 1) := by decide +kernel
theorem dX13_vows_171 : decode cX13_vows 171 = .ok (.invokevirtual 199, 3) := by decide +kernel
theorem dX13_vows_174 : decode cX13_vows 174 = .ok (.aload_n 0, 1) := by decide +kernel
theorem dX13_vows_175 : decode cX13_vows 175 = .ok (.dup, 1) := by decide +kernel
theorem dX13_vows_176 : decode cX13_vows 176 = .ok (.getfield 190, 3) := by decide +kernel
theorem dX13_vows_179 : decode cX13_vows 179 = .ok (.aload_n 0, 1) := by decide +kernel
theorem dX13_vows_180 : decode cX13_vows 180 = .ok (.getfield 193, 3) := by decide +kernel
theorem dX13_vows_183 : decode cX13_vows 183 = .ok (.ifCond .ne 11, 3) := by decide +kernel
theorem dX13_vows_186 : decode cX13_vows 186 = .ok (.iload_n 2, 1) := by decide +kernel
theorem dX13_vows_187 : decode cX13_vows 187 = .ok (.ifCond .ne 7, 3) := by decide +kernel
theorem dX13_vows_190 : decode cX13_vows 190 = .ok (.iconst 1, 1) := by decide +kernel
theorem dX13_vows_191 : decode cX13_vows 191 = .ok (.goto 4, 3) := by decide +kernel
theorem dX13_vows_194 : decode cX13_vows 194 = .ok (.iconst 0, 1) := by decide +kernel
theorem dX13_vows_195 : decode cX13_vows 195 = .ok (.iadd, 1) := by decide +kernel
theorem dX13_vows_196 : decode cX13_vows 196 = .ok (.putfield 190, 3) := by decide +kernel
theorem dX13_vows_199 : decode cX13_vows 199 = .ok (.aload_n 0, 1) := by decide +kernel
theorem dX13_vows_200 : decode cX13_vows 200 = .ok (.getfield 193, 3) := by decide +kernel
theorem dX13_vows_203 : decode cX13_vows 203 = .ok (.ifCond .ne 43, 3) := by decide +kernel
theorem dX13_vows_206 : decode cX13_vows 206 = .ok (.aload_n 0, 1) := by decide +kernel
theorem dX13_vows_207 : decode cX13_vows 207 = .ok (.getfield 114, 3) := by decide +kernel
theorem dX13_vows_210 : decode cX13_vows 210 = .ok (.bipush 80, 2) := by decide +kernel
theorem dX13_vows_212 : decode cX13_vows 212 = .ok (.iconst 3, 1) := by decide +kernel
theorem dX13_vows_213 : decode cX13_vows 213 = .ok (.iload_n 1, 1) := by decide +kernel
theorem dX13_vows_214 : decode cX13_vows 214 = .ok (.imul, 1) := by decide +kernel
theorem dX13_vows_215 : decode cX13_vows 215 = .ok (.iadd, 1) := by decide +kernel
theorem dX13_vows_216 : decode cX13_vows 216 = .ok (.iload_n 2, 1) := by decide +kernel
theorem dX13_vows_217 : decode cX13_vows 217 = .ok (.iastore, 1) := by decide +kernel
theorem dX13_vows_218 : decode cX13_vows 218 = .ok (.aload_n 0, 1) := by decide +kernel
theorem dX13_vows_219 : decode cX13_vows 219 = .ok (.getfield 114, 3) := by decide +kernel
theorem dX13_vows_222 : decode cX13_vows 222 = .ok (.bipush 81, 2) := by decide +kernel
theorem dX13_vows_224 : decode cX13_vows 224 = .ok (.iconst 3, 1) := by decide +kernel
theorem dX13_vows_225 : decode cX13_vows 225 = .ok (.iload_n 1, 1) := by decide +kernel
theorem dX13_vows_226 : decode cX13_vows 226 = .ok (.imul, 1) := by decide +kernel
theorem dX13_vows_227 : decode cX13_vows 227 = .ok (.iadd, 1) := by decide +kernel
theorem dX13_vows_228 : decode cX13_vows 228 = .ok (.iload_n 3, 1) := by decide +kernel
theorem dX13_vows_229 : decode cX13_vows 229 = .ok (.iastore, 1) := by decide +kernel
theorem dX13_vows_230 : decode cX13_vows 230 = .ok (.aload_n 0, 1) := by decide +kernel
theorem dX13_vows_231 : decode cX13_vows 231 = .ok (.getfield 114, 3) := by decide +kernel
theorem dX13_vows_234 : decode cX13_vows 234 = .ok (.bipush 82, 2) := by decide +kernel
theorem dX13_vows_236 : decode cX13_vows 236 = .ok (.iconst 3, 1) := by decide +kernel
theorem dX13_vows_237 : decode cX13_vows 237 = .ok (.iload_n 1, 1) := by decide +kernel
theorem dX13_vows_238 : decode cX13_vows 238 = .ok (.imul, 1) := by decide +kernel
theorem dX13_vows_239 : decode cX13_vows 239 = .ok (.iadd, 1) := by decide +kernel
theorem dX13_vows_240 : decode cX13_vows 240 = .ok (.iload 4, 2) := by decide +kernel
theorem dX13_vows_242 : decode cX13_vows 242 = .ok (.iastore, 1) := by decide +kernel
theorem dX13_vows_243 : decode cX13_vows 243 = .ok (.iinc 1 1, 3) := by decide +kernel
theorem dX13_vows_246 : decode cX13_vows 246 = .ok (.aload_n 0, 1) := by decide +kernel
theorem dX13_vows_247 : decode cX13_vows 247 = .ok (.bipush 59, 2) := by decide +kernel
theorem dX13_vows_249 : decode cX13_vows 249 = .ok (.invokevirtual 244, 3) := by decide +kernel
theorem dX13_vows_252 : decode cX13_vows 252 = .ok (.goto (-241), 3) := by decide +kernel
theorem dX13_vows_255 : decode cX13_vows 255 = .ok (.aload_n 0, 1) := by decide +kernel
theorem dX13_vows_256 : decode cX13_vows 256 = .ok (.getfield 193, 3) := by decide +kernel
theorem dX13_vows_259 : decode cX13_vows 259 = .ok (.ifCond .le 8, 3) := by decide +kernel
theorem dX13_vows_262 : decode cX13_vows 262 = .ok (.aload_n 0, 1) := by decide +kernel
theorem dX13_vows_263 : decode cX13_vows 263 = .ok (.getfield 193, 3) := by decide +kernel
theorem dX13_vows_266 : decode cX13_vows 266 = .ok (.ireturn, 1) := by decide +kernel
theorem dX13_vows_267 : decode cX13_vows 267 = .ok (.aload_n 0, 1) := by decide +kernel
theorem dX13_vows_268 : decode cX13_vows 268 = .ok (.getfield 114, 3) := by decide +kernel
theorem dX13_vows_271 : decode cX13_vows 271 = .ok (.iconst 0, 1) := by decide +kernel
theorem dX13_vows_272 : decode cX13_vows 272 = .ok (.iload_n 1, 1) := by decide +kernel
theorem dX13_vows_273 : decode cX13_vows 273 = .ok (.iastore, 1) := by decide +kernel
theorem dX13_vows_274 : decode cX13_vows 274 = .ok (.iconst 0, 1) := by decide +kernel
theorem dX13_vows_275 : decode cX13_vows 275 = .ok (.istore_n 2, 1) := by decide +kernel
theorem dX13_vows_276 : decode cX13_vows 276 = .ok (.iload_n 2, 1) := by decide +kernel
theorem dX13_vows_277 : decode cX13_vows 277 = .ok (.iconst 3, 1) := by decide +kernel
theorem dX13_vows_278 : decode cX13_vows 278 = .ok (.iload_n 1, 1) := by decide +kernel
theorem dX13_vows_279 : decode cX13_vows 279 = .ok (.imul, 1) := by decide +kernel
theorem dX13_vows_280 : decode cX13_vows 280 = .ok (.if_icmp .ge 26, 3) := by decide +kernel
theorem dX13_vows_283 : decode cX13_vows 283 = .ok (.aload_n 0, 1) := by decide +kernel
theorem dX13_vows_284 : decode cX13_vows 284 = .ok (.getfield 114, 3) := by decide +kernel
theorem dX13_vows_287 : decode cX13_vows 287 = .ok (.iconst 1, 1) := by decide +kernel
theorem dX13_vows_288 : decode cX13_vows 288 = .ok (.iload_n 2, 1) := by decide +kernel
theorem dX13_vows_289 : decode cX13_vows 289 = .ok (.iadd, 1) := by decide +kernel
theorem dX13_vows_290 : decode cX13_vows 290 = .ok (.aload_n 0, 1) := by decide +kernel
theorem dX13_vows_291 : decode cX13_vows 291 = .ok (.getfield 114, 3) := by decide +kernel
theorem dX13_vows_294 : decode cX13_vows 294 = .ok (.bipush 80, 2) := by decide +kernel
theorem dX13_vows_296 : decode cX13_vows 296 = .ok (.iload_n 2, 1) := by decide +kernel
theorem dX13_vows_297 : decode cX13_vows 297 = .ok (.iadd, 1) := by decide +kernel
theorem dX13_vows_298 : decode cX13_vows 298 = .ok (.iaload, 1) := by decide +kernel
theorem dX13_vows_299 : decode cX13_vows 299 = .ok (.iastore, 1) := by decide +kernel
theorem dX13_vows_300 : decode cX13_vows 300 = .ok (.iinc 2 1, 3) := by decide +kernel
theorem dX13_vows_303 : decode cX13_vows 303 = .ok (.goto (-27), 3) := by decide +kernel
theorem dX13_vows_306 : decode cX13_vows 306 = .ok (.iconst 0, 1) := by decide +kernel
theorem dX13_vows_307 : decode cX13_vows 307 = .ok (.ireturn, 1) := by decide +kernel
theorem dX13_will_0 : decode cX13_will 0 = .ok (.aload_n 0, 1) := by decide +kernel
theorem dX13_will_1 : decode cX13_will 1 = .ok (.iconst 0, 1) := by decide +kernel
theorem dX13_will_2 : decode cX13_will 2 = .ok (.putfield 1, 3) := by decide +kernel
theorem dX13_will_5 : decode cX13_will 5 = .ok (.aload_n 0, 1) := by decide +kernel
theorem dX13_will_6 : decode cX13_will 6 = .ok (.invokevirtual 226, 3) := by decide +kernel
theorem dX13_will_9 : decode cX13_will 9 = .ok (.iconst 0, 1) := by decide +kernel
theorem dX13_will_10 : decode cX13_will 10 = .ok (.istore_n 1, 1) := by decide +kernel
theorem dX13_will_11 : decode cX13_will 11 = .ok (.aload_n 0, 1) := by decide +kernel
theorem dX13_will_12 : decode cX13_will 12 = .ok (.getfield 193, 3) := by decide +kernel
theorem dX13_will_15 : decode cX13_will 15 = .ok (.ifCond .ne 81, 3) := by decide +kernel
theorem dX13_will_18 : decode cX13_will 18 = .ok (.aload_n 0, 1) := by decide +kernel
theorem dX13_will_19 : decode cX13_will 19 = .ok (.getfield 24, 3) := by decide +kernel
theorem dX13_will_22 : decode cX13_will 22 = .ok (.aload_n 0, 1) := by decide +kernel
theorem dX13_will_23 : decode cX13_will 23 = .ok (.getfield 190, 3) := by decide +kernel
theorem dX13_will_26 : decode cX13_will 26 = .ok (.iaload, 1) := by decide +kernel
theorem dX13_will_27 : decode cX13_will 27 = .ok (.ifCond .eq 69, 3) := by decide +kernel
theorem dX13_will_30 : decode cX13_will 30 = .ok (.aload_n 0, 1) := by decide +kernel
theorem dX13_will_31 : decode cX13_will 31 = .ok (.bipush 19, 2) := by decide +kernel
theorem dX13_will_33 : decode cX13_will 33 = .ok (.invokevirtual 202, 3) := by decide +kernel
theorem dX13_will_36 : decode cX13_will 36 = .ok (.ifCond .ne 11, 3) := by decide +kernel
theorem dX13_will_39 : decode cX13_will 39 = .ok (.aload_n 0, 1) := by decide +kernel
theorem dX13_will_40 : decode cX13_will 40 = .ok (.iconst 1, 1) := by decide +kernel
theorem dX13_will_41 : decode cX13_will 41 = .ok (.invokevirtual 199, 3) := by decide +kernel
theorem dX13_will_44 : decode cX13_will 44 = .ok (.goto 43, 3) := by decide +kernel
theorem dX13_will_47 : decode cX13_will 47 = .ok (.iload_n 1, 1) := by decide +kernel
theorem dX13_will_48 : decode cX13_will 48 = .ok (.bipush 6, 2) := by decide +kernel
theorem dX13_will_50 : decode cX13_will 50 = .ok (.if_icmp .ne 11, 3) := by decide +kernel
theorem dX13_will_53 : decode cX13_will 53 = .ok (.aload_n 0, 1) := by decide +kernel
theorem dX13_will_54 : decode cX13_will 54 = .ok (.iconst 5, 1) := by decide +kernel
theorem dX13_will_55 : decode cX13_will 55 = .ok (.invokevirtual 199, 3) := by decide +kernel
theorem dX13_will_58 : decode cX13_will 58 = .ok (.goto 29, 3) := by decide +kernel
theorem dX13_will_61 : decode cX13_will 61 = .ok (.aload_n 0, 1) := by decide +kernel
theorem dX13_will_62 : decode cX13_will 62 = .ok (.dup, 1) := by decide +kernel
theorem dX13_will_63 : decode cX13_will 63 = .ok (.getfield 190, 3) := by decide +kernel
theorem dX13_will_66 : decode cX13_will 66 = .ok (.iconst 1, 1) := by decide +kernel
theorem dX13_will_67 : decode cX13_will 67 = .ok (.iadd, 1) := by decide +kernel
theorem dX13_will_68 : decode cX13_will 68 = .ok (.putfield 190, 3) := by decide +kernel
theorem dX13_will_71 : decode cX13_will 71 = .ok (.aload_n 0, 1) := by decide +kernel
theorem dX13_will_72 : decode cX13_will 72 = .ok (.getfield 117, 3) := by decide +kernel
theorem dX13_will_75 : decode cX13_will 75 = .ok (.iload_n 1, 1) := by decide +kernel
theorem dX13_will_76 : decode cX13_will 76 = .ok (.aload_n 0, 1) := by decide +kernel
theorem dX13_will_77 : decode cX13_will 77 = .ok (.iconst 0, 1) := by decide +kernel
theorem dX13_will_78 : decode cX13_will 78 = .ok (.bipush 99, 2) := by decide +kernel
theorem dX13_will_80 : decode cX13_will 80 = .ok (.invokevirtual 211, 3) := by decide +kernel
theorem dX13_will_83 : decode cX13_will 83 = .ok (.iastore, 1) := by decide +kernel
theorem dX13_will_84 : decode cX13_will 84 = .ok (.iinc 1 1, 3) := by decide +kernel
theorem dX13_will_87 : decode cX13_will 87 = .ok (.aload_n 0, 1) := by decide +kernel
theorem dX13_will_88 : decode cX13_will 88 = .ok (.bipush 59, 2) := by decide +kernel
theorem dX13_will_90 : decode cX13_will 90 = .ok (.invokevirtual 244, 3) := by decide +kernel
theorem dX13_will_93 : decode cX13_will 93 = .ok (.goto (-82), 3) := by decide +kernel
theorem dX13_will_96 : decode cX13_will 96 = .ok (.aload_n 0, 1) := by decide +kernel
theorem dX13_will_97 : decode cX13_will 97 = .ok (.getfield 193, 3) := by decide +kernel
theorem dX13_will_100 : decode cX13_will 100 = .ok (.ifCond .le 8, 3) := by decide +kernel
theorem dX13_will_103 : decode cX13_will 103 = .ok (.aload_n 0, 1) := by decide +kernel
theorem dX13_will_104 : decode cX13_will 104 = .ok (.getfield 193, 3) := by decide +kernel
theorem dX13_will_107 : decode cX13_will 107 = .ok (.ireturn, 1) := by decide +kernel
theorem dX13_will_108 : decode cX13_will 108 = .ok (.aload_n 0, 1) := by decide +kernel
theorem dX13_will_109 : decode cX13_will 109 = .ok (.getfield 126, 3) := by decide +kernel
theorem dX13_will_112 : decode cX13_will 112 = .ok (.bipush 19, 2) := by decide +kernel
theorem dX13_will_114 : decode cX13_will 114 = .ok (.iload_n 1, 1) := by decide +kernel
theorem dX13_will_115 : decode cX13_will 115 = .ok (.iastore, 1) := by decide +kernel
theorem dX13_will_116 : decode cX13_will 116 = .ok (.iconst 0, 1) := by decide +kernel
theorem dX13_will_117 : decode cX13_will 117 = .ok (.istore_n 2, 1) := by decide +kernel
theorem dX13_will_118 : decode cX13_will 118 = .ok (.iload_n 2, 1) := by decide +kernel
theorem dX13_will_119 : decode cX13_will 119 = .ok (.iload_n 1, 1) := by decide +kernel
theorem dX13_will_120 : decode cX13_will 120 = .ok (.if_icmp .ge 24, 3) := by decide +kernel
theorem dX13_will_123 : decode cX13_will 123 = .ok (.aload_n 0, 1) := by decide +kernel
theorem dX13_will_124 : decode cX13_will 124 = .ok (.getfield 126, 3) := by decide +kernel
theorem dX13_will_127 : decode cX13_will 127 = .ok (.bipush 20, 2) := by decide +kernel
theorem dX13_will_129 : decode cX13_will 129 = .ok (.iload_n 2, 1) := by decide +kernel
theorem dX13_will_130 : decode cX13_will 130 = .ok (.iadd, 1) := by decide +kernel
theorem dX13_will_131 : decode cX13_will 131 = .ok (.aload_n 0, 1) := by decide +kernel
theorem dX13_will_132 : decode cX13_will 132 = .ok (.getfield 117, 3) := by decide +kernel
theorem dX13_will_135 : decode cX13_will 135 = .ok (.iload_n 2, 1) := by decide +kernel
theorem dX13_will_136 : decode cX13_will 136 = .ok (.iaload, 1) := by decide +kernel
theorem dX13_will_137 : decode cX13_will 137 = .ok (.iastore, 1) := by decide +kernel
theorem dX13_will_138 : decode cX13_will 138 = .ok (.iinc 2 1, 3) := by decide +kernel
theorem dX13_will_141 : decode cX13_will 141 = .ok (.goto (-23), 3) := by decide +kernel
theorem dX13_will_144 : decode cX13_will 144 = .ok (.iconst 0, 1) := by decide +kernel
theorem dX13_will_145 : decode cX13_will 145 = .ok (.ireturn, 1) := by decide +kernel
theorem dX13_within_0 : decode cX13_within 0 = .ok (.iload_n 0, 1) := by decide +kernel
theorem dX13_within_1 : decode cX13_within 1 = .ok (.iload_n 1, 1) := by decide +kernel
theorem dX13_within_2 : decode cX13_within 2 = .ok (.if_icmp .lt 12, 3) := by decide +kernel
theorem dX13_within_5 : decode cX13_within 5 = .ok (.iload_n 0, 1) := by decide +kernel
theorem dX13_within_6 : decode cX13_within 6 = .ok (.iload_n 2, 1) := by decide +kernel
theorem dX13_within_7 : decode cX13_within 7 = .ok (.if_icmp .gt 7, 3) := by decide +kernel
theorem dX13_within_10 : decode cX13_within 10 = .ok (.iconst 1, 1) := by decide +kernel
theorem dX13_within_11 : decode cX13_within 11 = .ok (.goto 4, 3) := by decide +kernel
theorem dX13_within_14 : decode cX13_within 14 = .ok (.iconst 0, 1) := by decide +kernel
theorem dX13_within_15 : decode cX13_within 15 = .ok (.ireturn, 1) := by decide +kernel
theorem dX13_rivers_0 : decode cX13_rivers 0 = .ok (.aload_n 0, 1) := by decide +kernel
theorem dX13_rivers_1 : decode cX13_rivers 1 = .ok (.getfield 99, 3) := by decide +kernel
theorem dX13_rivers_4 : decode cX13_rivers 4 = .ok (.iconst 0, 1) := by decide +kernel
theorem dX13_rivers_5 : decode cX13_rivers 5 = .ok (.iaload, 1) := by decide +kernel
theorem dX13_rivers_6 : decode cX13_rivers 6 = .ok (.ireturn, 1) := by decide +kernel
theorem dX13_isRiver_0 : decode cX13_isRiver 0 = .ok (.iload_n 1, 1) := by decide +kernel
theorem dX13_isRiver_1 : decode cX13_isRiver 1 = .ok (.ifCond .lt 15, 3) := by decide +kernel
theorem dX13_isRiver_4 : decode cX13_isRiver 4 = .ok (.iload_n 1, 1) := by decide +kernel
theorem dX13_isRiver_5 : decode cX13_isRiver 5 = .ok (.aload_n 0, 1) := by decide +kernel
theorem dX13_isRiver_6 : decode cX13_isRiver 6 = .ok (.invokevirtual 296, 3) := by decide +kernel
theorem dX13_isRiver_9 : decode cX13_isRiver 9 = .ok (.if_icmp .ge 7, 3) := by decide +kernel
theorem dX13_isRiver_12 : decode cX13_isRiver 12 = .ok (.iconst 1, 1) := by decide +kernel
theorem dX13_isRiver_13 : decode cX13_isRiver 13 = .ok (.goto 4, 3) := by decide +kernel
theorem dX13_isRiver_16 : decode cX13_isRiver 16 = .ok (.iconst 0, 1) := by decide +kernel
theorem dX13_isRiver_17 : decode cX13_isRiver 17 = .ok (.ireturn, 1) := by decide +kernel
theorem dX13_river_0 : decode cX13_river 0 = .ok (.aload_n 0, 1) := by decide +kernel
theorem dX13_river_1 : decode cX13_river 1 = .ok (.aload_n 0, 1) := by decide +kernel
theorem dX13_river_2 : decode cX13_river 2 = .ok (.iload_n 1, 1) := by decide +kernel
theorem dX13_river_3 : decode cX13_river 3 = .ok (.invokevirtual 336, 3) := by decide +kernel
theorem dX13_river_6 : decode cX13_river 6 = .ok (.ifCond .eq 17, 3) := by decide +kernel
theorem dX13_river_9 : decode cX13_river 9 = .ok (.iload_n 2, 1) := by decide +kernel
theorem dX13_river_10 : decode cX13_river 10 = .ok (.iconst 0, 1) := by decide +kernel
theorem dX13_river_11 : decode cX13_river 11 = .ok (.bipush 8, 2) := by decide +kernel
theorem dX13_river_13 : decode cX13_river 13 = .ok (.invokestatic 339, 3) := by decide +kernel
theorem dX13_river_16 : decode cX13_river 16 = .ok (.ifCond .eq 7, 3) := by decide +kernel
theorem dX13_river_19 : decode cX13_river 19 = .ok (.iconst 0, 1) := by decide +kernel
theorem dX13_river_20 : decode cX13_river 20 = .ok (.goto 4, 3) := by decide +kernel
theorem dX13_river_23 : decode cX13_river 23 = .ok (.iconst 1, 1) := by decide +kernel
theorem dX13_river_24 : decode cX13_river 24 = .ok (.putfield 1, 3) := by decide +kernel
theorem dX13_river_27 : decode cX13_river 27 = .ok (.aload_n 0, 1) := by decide +kernel
theorem dX13_river_28 : decode cX13_river 28 = .ok (.getfield 1, 3) := by decide +kernel
theorem dX13_river_31 : decode cX13_river 31 = .ok (.ifCond .le 5, 3) := by decide +kernel
theorem dX13_river_34 : decode cX13_river 34 = .ok (.iconst 0, 1) := by decide +kernel
theorem dX13_river_35 : decode cX13_river 35 = .ok (.ireturn, 1) := by decide +kernel
theorem dX13_river_36 : decode cX13_river 36 = .ok (.iload_n 2, 1) := by decide +kernel
theorem dX13_river_37 : decode cX13_river 37 = .ok (.tableswitch 77 4 8 #[35, 43, 50, 57, 67], 35) := by decide +kernel
theorem dX13_river_72 : decode cX13_river 72 = .ok (.aload_n 0, 1) := by decide +kernel
theorem dX13_river_73 : decode cX13_river 73 = .ok (.iload_n 1, 1) := by decide +kernel
theorem dX13_river_74 : decode cX13_river 74 = .ok (.bipush 12, 2) := by decide +kernel
theorem dX13_river_76 : decode cX13_river 76 = .ok (.invokevirtual 300, 3) := by decide +kernel
theorem dX13_river_79 : decode cX13_river 79 = .ok (.ireturn, 1) := by decide +kernel
theorem dX13_river_80 : decode cX13_river 80 = .ok (.aload_n 0, 1) := by decide +kernel
theorem dX13_river_81 : decode cX13_river 81 = .ok (.iconst 0, 1) := by decide +kernel
theorem dX13_river_82 : decode cX13_river 82 = .ok (.iload_n 1, 1) := by decide +kernel
theorem dX13_river_83 : decode cX13_river 83 = .ok (.invokevirtual 303, 3) := by decide +kernel
theorem dX13_river_86 : decode cX13_river 86 = .ok (.ireturn, 1) := by decide +kernel
theorem dX13_river_87 : decode cX13_river 87 = .ok (.aload_n 0, 1) := by decide +kernel
theorem dX13_river_88 : decode cX13_river 88 = .ok (.iconst 0, 1) := by decide +kernel
theorem dX13_river_89 : decode cX13_river 89 = .ok (.iload_n 1, 1) := by decide +kernel
theorem dX13_river_90 : decode cX13_river 90 = .ok (.invokevirtual 342, 3) := by decide +kernel
theorem dX13_river_93 : decode cX13_river 93 = .ok (.ireturn, 1) := by decide +kernel
theorem dX13_river_94 : decode cX13_river 94 = .ok (.aload_n 0, 1) := by decide +kernel
theorem dX13_river_95 : decode cX13_river 95 = .ok (.getfield 126, 3) := by decide +kernel
theorem dX13_river_98 : decode cX13_river 98 = .ok (.bipush 13, 2) := by decide +kernel
theorem dX13_river_100 : decode cX13_river 100 = .ok (.iload_n 1, 1) := by decide +kernel
theorem dX13_river_101 : decode cX13_river 101 = .ok (.iadd, 1) := by decide +kernel
theorem dX13_river_102 : decode cX13_river 102 = .ok (.iaload, 1) := by decide +kernel
theorem dX13_river_103 : decode cX13_river 103 = .ok (.ireturn, 1) := by decide +kernel
theorem dX13_river_104 : decode cX13_river 104 = .ok (.aload_n 0, 1) := by decide +kernel
theorem dX13_river_105 : decode cX13_river 105 = .ok (.getfield 126, 3) := by decide +kernel
theorem dX13_river_108 : decode cX13_river 108 = .ok (.bipush 7, 2) := by decide +kernel
theorem dX13_river_110 : decode cX13_river 110 = .ok (.iload_n 1, 1) := by decide +kernel
theorem dX13_river_111 : decode cX13_river 111 = .ok (.iadd, 1) := by decide +kernel
theorem dX13_river_112 : decode cX13_river 112 = .ok (.iaload, 1) := by decide +kernel
theorem dX13_river_113 : decode cX13_river 113 = .ok (.ireturn, 1) := by decide +kernel
theorem dX13_river_114 : decode cX13_river 114 = .ok (.aload_n 0, 1) := by decide +kernel
theorem dX13_river_115 : decode cX13_river 115 = .ok (.iload_n 1, 1) := by decide +kernel
theorem dX13_river_116 : decode cX13_river 116 = .ok (.iload_n 2, 1) := by decide +kernel
theorem dX13_river_117 : decode cX13_river 117 = .ok (.invokevirtual 300, 3) := by decide +kernel
theorem dX13_river_120 : decode cX13_river 120 = .ok (.ireturn, 1) := by decide +kernel
theorem dX13_flow_0 : decode cX13_flow 0 = .ok (.aload_n 0, 1) := by decide +kernel
theorem dX13_flow_1 : decode cX13_flow 1 = .ok (.iconst 0, 1) := by decide +kernel
theorem dX13_flow_2 : decode cX13_flow 2 = .ok (.putfield 1, 3) := by decide +kernel
theorem dX13_flow_5 : decode cX13_flow 5 = .ok (.aload_n 0, 1) := by decide +kernel
theorem dX13_flow_6 : decode cX13_flow 6 = .ok (.iload_n 1, 1) := by decide +kernel
theorem dX13_flow_7 : decode cX13_flow 7 = .ok (.invokevirtual 336, 3) := by decide +kernel
theorem dX13_flow_10 : decode cX13_flow 10 = .ok (.ifCond .eq 42, 3) := by decide +kernel
theorem dX13_flow_13 : decode cX13_flow 13 = .ok (.iload_n 2, 1) := by decide +kernel
theorem dX13_flow_14 : decode cX13_flow 14 = .ok (.iconst 0, 1) := by decide +kernel
theorem dX13_flow_15 : decode cX13_flow 15 = .ok (.bipush 99, 2) := by decide +kernel
theorem dX13_flow_17 : decode cX13_flow 17 = .ok (.invokestatic 339, 3) := by decide +kernel
theorem dX13_flow_20 : decode cX13_flow 20 = .ok (.ifCond .eq 32, 3) := by decide +kernel
theorem dX13_flow_23 : decode cX13_flow 23 = .ok (.iload_n 3, 1) := by decide +kernel
theorem dX13_flow_24 : decode cX13_flow 24 = .ok (.iconst 0, 1) := by decide +kernel
theorem dX13_flow_25 : decode cX13_flow 25 = .ok (.iconst 3, 1) := by decide +kernel
theorem dX13_flow_26 : decode cX13_flow 26 = .ok (.invokestatic 339, 3) := by decide +kernel
theorem dX13_flow_29 : decode cX13_flow 29 = .ok (.ifCond .eq 23, 3) := by decide +kernel
theorem dX13_flow_32 : decode cX13_flow 32 = .ok (.aload_n 0, 1) := by decide +kernel
theorem dX13_flow_33 : decode cX13_flow 33 = .ok (.iload_n 1, 1) := by decide +kernel
theorem dX13_flow_34 : decode cX13_flow 34 = .ok (.iload_n 2, 1) := by decide +kernel
theorem dX13_flow_35 : decode cX13_flow 35 = .ok (.invokevirtual 345, 3) := by decide +kernel
theorem dX13_flow_38 : decode cX13_flow 38 = .ok (.ifCond .eq 14, 3) := by decide +kernel
theorem dX13_flow_41 : decode cX13_flow 41 = .ok (.aload_n 0, 1) := by decide +kernel
theorem dX13_flow_42 : decode cX13_flow 42 = .ok (.iconst 0, 1) := by decide +kernel
theorem dX13_flow_43 : decode cX13_flow 43 = .ok (.iload_n 1, 1) := by decide +kernel
theorem dX13_flow_44 : decode cX13_flow 44 = .ok (.iload_n 2, 1) := by decide +kernel
theorem dX13_flow_45 : decode cX13_flow 45 = .ok (.iload_n 3, 1) := by decide +kernel
theorem dX13_flow_46 : decode cX13_flow 46 = .ok (.invokevirtual 325, 3) := by decide +kernel
theorem dX13_flow_49 : decode cX13_flow 49 = .ok (.goto 4, 3) := by decide +kernel
theorem dX13_flow_52 : decode cX13_flow 52 = .ok (.iconst (-1), 1) := by decide +kernel
theorem dX13_flow_53 : decode cX13_flow 53 = .ok (.ireturn, 1) := by decide +kernel
theorem dX13_needs_0 : decode cX13_needs 0 = .ok (.aload_n 0, 1) := by decide +kernel
theorem dX13_needs_1 : decode cX13_needs 1 = .ok (.iconst 0, 1) := by decide +kernel
theorem dX13_needs_2 : decode cX13_needs 2 = .ok (.putfield 1, 3) := by decide +kernel
theorem dX13_needs_5 : decode cX13_needs 5 = .ok (.iconst 0, 1) := by decide +kernel
theorem dX13_needs_6 : decode cX13_needs 6 = .ok (.istore_n 2, 1) := by decide +kernel
theorem dX13_needs_7 : decode cX13_needs 7 = .ok (.iconst 0, 1) := by decide +kernel
theorem dX13_needs_8 : decode cX13_needs 8 = .ok (.istore_n 3, 1) := by decide +kernel
theorem dX13_needs_9 : decode cX13_needs 9 = .ok (.iload_n 3, 1) := by decide +kernel
theorem dX13_needs_10 : decode cX13_needs 10 = .ok (.aload_n 0, 1) := by decide +kernel
theorem dX13_needs_11 : decode cX13_needs 11 = .ok (.invokevirtual 296, 3) := by decide +kernel
theorem dX13_needs_14 : decode cX13_needs 14 = .ok (.if_icmp .ge 55, 3) := by decide +kernel
theorem dX13_needs_17 : decode cX13_needs 17 = .ok (.iload_n 1, 1) := by decide +kernel
theorem dX13_needs_18 : decode cX13_needs 18 = .ok (.ifCond .ne 17, 3) := by decide +kernel
theorem dX13_needs_21 : decode cX13_needs 21 = .ok (.aload_n 0, 1) := by decide +kernel
theorem dX13_needs_22 : decode cX13_needs 22 = .ok (.iconst 0, 1) := by decide +kernel
theorem dX13_needs_23 : decode cX13_needs 23 = .ok (.iload_n 3, 1) := by decide +kernel
theorem dX13_needs_24 : decode cX13_needs 24 = .ok (.aload_n 0, 1) := by decide +kernel
theorem dX13_needs_25 : decode cX13_needs 25 = .ok (.iconst 0, 1) := by decide +kernel
theorem dX13_needs_26 : decode cX13_needs 26 = .ok (.invokevirtual 349, 3) := by decide +kernel
theorem dX13_needs_29 : decode cX13_needs 29 = .ok (.invokevirtual 329, 3) := by decide +kernel
theorem dX13_needs_32 : decode cX13_needs 32 = .ok (.goto 14, 3) := by decide +kernel
theorem dX13_needs_35 : decode cX13_needs 35 = .ok (.aload_n 0, 1) := by decide +kernel
theorem dX13_needs_36 : decode cX13_needs 36 = .ok (.iconst 0, 1) := by decide +kernel
theorem dX13_needs_37 : decode cX13_needs 37 = .ok (.iload_n 3, 1) := by decide +kernel
theorem dX13_needs_38 : decode cX13_needs 38 = .ok (.aload_n 0, 1) := by decide +kernel
theorem dX13_needs_39 : decode cX13_needs 39 = .ok (.iconst 0, 1) := by decide +kernel
theorem dX13_needs_40 : decode cX13_needs 40 = .ok (.invokevirtual 349, 3) := by decide +kernel
theorem dX13_needs_43 : decode cX13_needs 43 = .ok (.invokevirtual 333, 3) := by decide +kernel
theorem dX13_needs_46 : decode cX13_needs 46 = .ok (.istore 4, 2) := by decide +kernel
theorem dX13_needs_48 : decode cX13_needs 48 = .ok (.iload_n 2, 1) := by decide +kernel
theorem dX13_needs_49 : decode cX13_needs 49 = .ok (.iload 4, 2) := by decide +kernel
theorem dX13_needs_51 : decode cX13_needs 51 = .ok (.ifCond .eq 9, 3) := by decide +kernel
theorem dX13_needs_54 : decode cX13_needs 54 = .ok (.iconst 1, 1) := by decide +kernel
theorem dX13_needs_55 : decode cX13_needs 55 = .ok (.iload_n 3, 1) := by decide +kernel
theorem dX13_needs_56 : decode cX13_needs 56 = .ok (.ishl, 1) := by decide +kernel
theorem dX13_needs_57 : decode cX13_needs 57 = .ok (.goto 4, 3) := by decide +kernel
theorem dX13_needs_60 : decode cX13_needs 60 = .ok (.iconst 0, 1) := by decide +kernel
theorem dX13_needs_61 : decode cX13_needs 61 = .ok (.ior, 1) := by decide +kernel
theorem dX13_needs_62 : decode cX13_needs 62 = .ok (.istore_n 2, 1) := by decide +kernel
theorem dX13_needs_63 : decode cX13_needs 63 = .ok (.iinc 3 1, 3) := by decide +kernel
theorem dX13_needs_66 : decode cX13_needs 66 = .ok (.goto (-57), 3) := by decide +kernel
theorem dX13_needs_69 : decode cX13_needs 69 = .ok (.iload_n 1, 1) := by decide +kernel
theorem dX13_needs_70 : decode cX13_needs 70 = .ok (.iconst 0, 1) := by decide +kernel
theorem dX13_needs_71 : decode cX13_needs 71 = .ok (.iconst 1, 1) := by decide +kernel
theorem dX13_needs_72 : decode cX13_needs 72 = .ok (.invokestatic 339, 3) := by decide +kernel
theorem dX13_needs_75 : decode cX13_needs 75 = .ok (.ifCond .eq 7, 3) := by decide +kernel
theorem dX13_needs_78 : decode cX13_needs 78 = .ok (.iload_n 2, 1) := by decide +kernel
theorem dX13_needs_79 : decode cX13_needs 79 = .ok (.goto 4, 3) := by decide +kernel
theorem dX13_needs_82 : decode cX13_needs 82 = .ok (.iconst (-1), 1) := by decide +kernel
theorem dX13_needs_83 : decode cX13_needs 83 = .ok (.ireturn, 1) := by decide +kernel
theorem dX13_near_0 : decode cX13_near 0 = .ok (.aload_n 0, 1) := by decide +kernel
theorem dX13_near_1 : decode cX13_near 1 = .ok (.iconst 0, 1) := by decide +kernel
theorem dX13_near_2 : decode cX13_near 2 = .ok (.putfield 1, 3) := by decide +kernel
theorem dX13_near_5 : decode cX13_near 5 = .ok (.aload_n 0, 1) := by decide +kernel
theorem dX13_near_6 : decode cX13_near 6 = .ok (.iload_n 1, 1) := by decide +kernel
theorem dX13_near_7 : decode cX13_near 7 = .ok (.invokevirtual 336, 3) := by decide +kernel
theorem dX13_near_10 : decode cX13_near 10 = .ok (.ifCond .eq 20, 3) := by decide +kernel
theorem dX13_near_13 : decode cX13_near 13 = .ok (.aload_n 0, 1) := by decide +kernel
theorem dX13_near_14 : decode cX13_near 14 = .ok (.iload_n 2, 1) := by decide +kernel
theorem dX13_near_15 : decode cX13_near 15 = .ok (.invokevirtual 336, 3) := by decide +kernel
theorem dX13_near_18 : decode cX13_near 18 = .ok (.ifCond .eq 12, 3) := by decide +kernel
theorem dX13_near_21 : decode cX13_near 21 = .ok (.aload_n 0, 1) := by decide +kernel
theorem dX13_near_22 : decode cX13_near 22 = .ok (.iload_n 1, 1) := by decide +kernel
theorem dX13_near_23 : decode cX13_near 23 = .ok (.iload_n 2, 1) := by decide +kernel
theorem dX13_near_24 : decode cX13_near 24 = .ok (.invokevirtual 352, 3) := by decide +kernel
theorem dX13_near_27 : decode cX13_near 27 = .ok (.goto 4, 3) := by decide +kernel
theorem dX13_near_30 : decode cX13_near 30 = .ok (.iconst (-1), 1) := by decide +kernel
theorem dX13_near_31 : decode cX13_near 31 = .ok (.ireturn, 1) := by decide +kernel
