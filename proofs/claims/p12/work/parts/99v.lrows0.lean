theorem dL_law_0 : decode code 0 = .ok (.new 8, 3) := by decide +kernel
theorem dL_law_3 : decode code 3 = .ok (.dup, 1) := by decide +kernel
theorem dL_law_4 : decode code 4 = .ok (.invokespecial 18, 3) := by decide +kernel
theorem dL_law_7 : decode code 7 = .ok (.astore_n 1, 1) := by decide +kernel
theorem dL_law_8 : decode code 8 = .ok (.new 19, 3) := by decide +kernel
theorem dL_law_11 : decode code 11 = .ok (.dup, 1) := by decide +kernel
theorem dL_law_12 : decode code 12 = .ok (.invokespecial 21, 3) := by decide +kernel
theorem dL_law_15 : decode code 15 = .ok (.astore_n 2, 1) := by decide +kernel
theorem dL_law_16 : decode code 16 = .ok (.iconst 1, 1) := by decide +kernel
theorem dL_law_17 : decode code 17 = .ok (.newarray .long, 2) := by decide +kernel
theorem dL_law_19 : decode code 19 = .ok (.astore_n 3, 1) := by decide +kernel
theorem dL_law_20 : decode code 20 = .ok (.iconst 0, 1) := by decide +kernel
theorem dL_law_21 : decode code 21 = .ok (.istore 4, 2) := by decide +kernel
theorem dL_law_23 : decode code 23 = .ok (.iload 4, 2) := by decide +kernel
theorem dL_law_25 : decode code 25 = .ok (.aload_n 0, 1) := by decide +kernel
theorem dL_law_26 : decode code 26 = .ok (.arraylength, 1) := by decide +kernel
theorem dL_law_27 : decode code 27 = .ok (.bipush 7, 2) := by decide +kernel
theorem dL_law_29 : decode code 29 = .ok (.isub, 1) := by decide +kernel
theorem dL_law_30 : decode code 30 = .ok (.if_icmp .gt 1407, 3) := by decide +kernel
theorem dL_law_33 : decode code 33 = .ok (.aload_n 0, 1) := by decide +kernel
theorem dL_law_34 : decode code 34 = .ok (.iload 4, 2) := by decide +kernel
theorem dL_law_36 : decode code 36 = .ok (.iaload, 1) := by decide +kernel
theorem dL_law_37 : decode code 37 = .ok (.bipush 63, 2) := by decide +kernel
theorem dL_law_39 : decode code 39 = .ok (.iand, 1) := by decide +kernel
theorem dL_law_40 : decode code 40 = .ok (.tableswitch 1391 0 34 #[156, 303, 316, 329, 342, 382, 431, 456, 493, 530, 555, 568, 605, 630, 655, 668, 693, 730, 755, 780, 805, 854, 867, 892, 905, 945, 994, 1031, 1080, 1129, 1154, 1215, 1264, 1313, 1366], 156) := by decide +kernel
theorem dL_law_196 : decode code 196 = .ok (.aload_n 1, 1) := by decide +kernel
theorem dL_law_197 : decode code 197 = .ok (.aload_n 0, 1) := by decide +kernel
theorem dL_law_198 : decode code 198 = .ok (.iload 4, 2) := by decide +kernel
theorem dL_law_200 : decode code 200 = .ok (.iconst 1, 1) := by decide +kernel
theorem dL_law_201 : decode code 201 = .ok (.iadd, 1) := by decide +kernel
theorem dL_law_202 : decode code 202 = .ok (.iaload, 1) := by decide +kernel
theorem dL_law_203 : decode code 203 = .ok (.i2l, 1) := by decide +kernel
theorem dL_law_204 : decode code 204 = .ok (.bipush 32, 2) := by decide +kernel
theorem dL_law_206 : decode code 206 = .ok (.lshl, 1) := by decide +kernel
theorem dL_law_207 : decode code 207 = .ok (.aload_n 0, 1) := by decide +kernel
theorem dL_law_208 : decode code 208 = .ok (.iload 4, 2) := by decide +kernel
theorem dL_law_210 : decode code 210 = .ok (.iconst 2, 1) := by decide +kernel
theorem dL_law_211 : decode code 211 = .ok (.iadd, 1) := by decide +kernel
theorem dL_law_212 : decode code 212 = .ok (.iaload, 1) := by decide +kernel
theorem dL_law_213 : decode code 213 = .ok (.i2l, 1) := by decide +kernel
theorem dL_law_214 : decode code 214 = .ok (.ldc2_w 22, 3) := by decide +kernel
theorem dL_law_217 : decode code 217 = .ok (.land, 1) := by decide +kernel
theorem dL_law_218 : decode code 218 = .ok (.lor, 1) := by decide +kernel
theorem dL_law_219 : decode code 219 = .ok (.aload_n 0, 1) := by decide +kernel
theorem dL_law_220 : decode code 220 = .ok (.iload 4, 2) := by decide +kernel
theorem dL_law_222 : decode code 222 = .ok (.iconst 3, 1) := by decide +kernel
theorem dL_law_223 : decode code 223 = .ok (.iadd, 1) := by decide +kernel
theorem dL_law_224 : decode code 224 = .ok (.iaload, 1) := by decide +kernel
theorem dL_law_225 : decode code 225 = .ok (.i2l, 1) := by decide +kernel
theorem dL_law_226 : decode code 226 = .ok (.bipush 32, 2) := by decide +kernel
theorem dL_law_228 : decode code 228 = .ok (.lshl, 1) := by decide +kernel
theorem dL_law_229 : decode code 229 = .ok (.aload_n 0, 1) := by decide +kernel
theorem dL_law_230 : decode code 230 = .ok (.iload 4, 2) := by decide +kernel
theorem dL_law_232 : decode code 232 = .ok (.iconst 4, 1) := by decide +kernel
theorem dL_law_233 : decode code 233 = .ok (.iadd, 1) := by decide +kernel
theorem dL_law_234 : decode code 234 = .ok (.iaload, 1) := by decide +kernel
theorem dL_law_235 : decode code 235 = .ok (.i2l, 1) := by decide +kernel
theorem dL_law_236 : decode code 236 = .ok (.ldc2_w 22, 3) := by decide +kernel
theorem dL_law_239 : decode code 239 = .ok (.land, 1) := by decide +kernel
theorem dL_law_240 : decode code 240 = .ok (.lor, 1) := by decide +kernel
theorem dL_law_241 : decode code 241 = .ok (.aload_n 0, 1) := by decide +kernel
theorem dL_law_242 : decode code 242 = .ok (.iload 4, 2) := by decide +kernel
theorem dL_law_244 : decode code 244 = .ok (.iconst 5, 1) := by decide +kernel
theorem dL_law_245 : decode code 245 = .ok (.iadd, 1) := by decide +kernel
theorem dL_law_246 : decode code 246 = .ok (.iaload, 1) := by decide +kernel
theorem dL_law_247 : decode code 247 = .ok (.i2l, 1) := by decide +kernel
theorem dL_law_248 : decode code 248 = .ok (.bipush 32, 2) := by decide +kernel
theorem dL_law_250 : decode code 250 = .ok (.lshl, 1) := by decide +kernel
theorem dL_law_251 : decode code 251 = .ok (.aload_n 0, 1) := by decide +kernel
theorem dL_law_252 : decode code 252 = .ok (.iload 4, 2) := by decide +kernel
theorem dL_law_254 : decode code 254 = .ok (.bipush 6, 2) := by decide +kernel
theorem dL_law_256 : decode code 256 = .ok (.iadd, 1) := by decide +kernel
theorem dL_law_257 : decode code 257 = .ok (.iaload, 1) := by decide +kernel
theorem dL_law_258 : decode code 258 = .ok (.i2l, 1) := by decide +kernel
theorem dL_law_259 : decode code 259 = .ok (.ldc2_w 22, 3) := by decide +kernel
theorem dL_law_262 : decode code 262 = .ok (.land, 1) := by decide +kernel
theorem dL_law_263 : decode code 263 = .ok (.lor, 1) := by decide +kernel
theorem dL_law_264 : decode code 264 = .ok (.invokevirtual 24, 3) := by decide +kernel
theorem dL_law_267 : decode code 267 = .ok (.pop, 1) := by decide +kernel
theorem dL_law_268 : decode code 268 = .ok (.aload_n 2, 1) := by decide +kernel
theorem dL_law_269 : decode code 269 = .ok (.aload_n 0, 1) := by decide +kernel
theorem dL_law_270 : decode code 270 = .ok (.iload 4, 2) := by decide +kernel
theorem dL_law_272 : decode code 272 = .ok (.iconst 1, 1) := by decide +kernel
theorem dL_law_273 : decode code 273 = .ok (.iadd, 1) := by decide +kernel
theorem dL_law_274 : decode code 274 = .ok (.iaload, 1) := by decide +kernel
theorem dL_law_275 : decode code 275 = .ok (.i2l, 1) := by decide +kernel
theorem dL_law_276 : decode code 276 = .ok (.bipush 32, 2) := by decide +kernel
theorem dL_law_278 : decode code 278 = .ok (.lshl, 1) := by decide +kernel
theorem dL_law_279 : decode code 279 = .ok (.aload_n 0, 1) := by decide +kernel
theorem dL_law_280 : decode code 280 = .ok (.iload 4, 2) := by decide +kernel
theorem dL_law_282 : decode code 282 = .ok (.iconst 2, 1) := by decide +kernel
theorem dL_law_283 : decode code 283 = .ok (.iadd, 1) := by decide +kernel
theorem dL_law_284 : decode code 284 = .ok (.iaload, 1) := by decide +kernel
theorem dL_law_285 : decode code 285 = .ok (.i2l, 1) := by decide +kernel
theorem dL_law_286 : decode code 286 = .ok (.ldc2_w 22, 3) := by decide +kernel
theorem dL_law_289 : decode code 289 = .ok (.land, 1) := by decide +kernel
theorem dL_law_290 : decode code 290 = .ok (.lor, 1) := by decide +kernel
theorem dL_law_291 : decode code 291 = .ok (.aload_n 0, 1) := by decide +kernel
theorem dL_law_292 : decode code 292 = .ok (.iload 4, 2) := by decide +kernel
theorem dL_law_294 : decode code 294 = .ok (.iconst 3, 1) := by decide +kernel
theorem dL_law_295 : decode code 295 = .ok (.iadd, 1) := by decide +kernel
theorem dL_law_296 : decode code 296 = .ok (.iaload, 1) := by decide +kernel
theorem dL_law_297 : decode code 297 = .ok (.i2l, 1) := by decide +kernel
theorem dL_law_298 : decode code 298 = .ok (.bipush 32, 2) := by decide +kernel
theorem dL_law_300 : decode code 300 = .ok (.lshl, 1) := by decide +kernel
theorem dL_law_301 : decode code 301 = .ok (.aload_n 0, 1) := by decide +kernel
theorem dL_law_302 : decode code 302 = .ok (.iload 4, 2) := by decide +kernel
theorem dL_law_304 : decode code 304 = .ok (.iconst 4, 1) := by decide +kernel
theorem dL_law_305 : decode code 305 = .ok (.iadd, 1) := by decide +kernel
theorem dL_law_306 : decode code 306 = .ok (.iaload, 1) := by decide +kernel
theorem dL_law_307 : decode code 307 = .ok (.i2l, 1) := by decide +kernel
theorem dL_law_308 : decode code 308 = .ok (.ldc2_w 22, 3) := by decide +kernel
theorem dL_law_311 : decode code 311 = .ok (.land, 1) := by decide +kernel
theorem dL_law_312 : decode code 312 = .ok (.lor, 1) := by decide +kernel
theorem dL_law_313 : decode code 313 = .ok (.aload_n 0, 1) := by decide +kernel
theorem dL_law_314 : decode code 314 = .ok (.iload 4, 2) := by decide +kernel
theorem dL_law_316 : decode code 316 = .ok (.iconst 5, 1) := by decide +kernel
theorem dL_law_317 : decode code 317 = .ok (.iadd, 1) := by decide +kernel
theorem dL_law_318 : decode code 318 = .ok (.iaload, 1) := by decide +kernel
theorem dL_law_319 : decode code 319 = .ok (.i2l, 1) := by decide +kernel
theorem dL_law_320 : decode code 320 = .ok (.bipush 32, 2) := by decide +kernel
theorem dL_law_322 : decode code 322 = .ok (.lshl, 1) := by decide +kernel
theorem dL_law_323 : decode code 323 = .ok (.aload_n 0, 1) := by decide +kernel
theorem dL_law_324 : decode code 324 = .ok (.iload 4, 2) := by decide +kernel
theorem dL_law_326 : decode code 326 = .ok (.bipush 6, 2) := by decide +kernel
theorem dL_law_328 : decode code 328 = .ok (.iadd, 1) := by decide +kernel
theorem dL_law_329 : decode code 329 = .ok (.iaload, 1) := by decide +kernel
theorem dL_law_330 : decode code 330 = .ok (.i2l, 1) := by decide +kernel
theorem dL_law_331 : decode code 331 = .ok (.ldc2_w 22, 3) := by decide +kernel
theorem dL_law_334 : decode code 334 = .ok (.land, 1) := by decide +kernel
theorem dL_law_335 : decode code 335 = .ok (.lor, 1) := by decide +kernel
theorem dL_law_336 : decode code 336 = .ok (.invokevirtual 28, 3) := by decide +kernel
theorem dL_law_339 : decode code 339 = .ok (.pop, 1) := by decide +kernel
theorem dL_law_340 : decode code 340 = .ok (.goto 1091, 3) := by decide +kernel
theorem dL_law_343 : decode code 343 = .ok (.aload_n 1, 1) := by decide +kernel
theorem dL_law_344 : decode code 344 = .ok (.invokevirtual 29, 3) := by decide +kernel
theorem dL_law_347 : decode code 347 = .ok (.pop, 1) := by decide +kernel
theorem dL_law_348 : decode code 348 = .ok (.aload_n 2, 1) := by decide +kernel
theorem dL_law_349 : decode code 349 = .ok (.invokevirtual 33, 3) := by decide +kernel
theorem dL_law_352 : decode code 352 = .ok (.pop, 1) := by decide +kernel
theorem dL_law_353 : decode code 353 = .ok (.goto 1078, 3) := by decide +kernel
theorem dL_law_356 : decode code 356 = .ok (.aload_n 1, 1) := by decide +kernel
theorem dL_law_357 : decode code 357 = .ok (.invokevirtual 34, 3) := by decide +kernel
theorem dL_law_360 : decode code 360 = .ok (.pop, 1) := by decide +kernel
theorem dL_law_361 : decode code 361 = .ok (.aload_n 2, 1) := by decide +kernel
theorem dL_law_362 : decode code 362 = .ok (.invokevirtual 37, 3) := by decide +kernel
theorem dL_law_365 : decode code 365 = .ok (.pop, 1) := by decide +kernel
theorem dL_law_366 : decode code 366 = .ok (.goto 1065, 3) := by decide +kernel
theorem dL_law_369 : decode code 369 = .ok (.aload_n 1, 1) := by decide +kernel
theorem dL_law_370 : decode code 370 = .ok (.invokevirtual 38, 3) := by decide +kernel
theorem dL_law_373 : decode code 373 = .ok (.pop, 1) := by decide +kernel
theorem dL_law_374 : decode code 374 = .ok (.aload_n 2, 1) := by decide +kernel
theorem dL_law_375 : decode code 375 = .ok (.invokevirtual 41, 3) := by decide +kernel
theorem dL_law_378 : decode code 378 = .ok (.pop, 1) := by decide +kernel
theorem dL_law_379 : decode code 379 = .ok (.goto 1052, 3) := by decide +kernel
theorem dL_law_382 : decode code 382 = .ok (.aload_n 1, 1) := by decide +kernel
theorem dL_law_383 : decode code 383 = .ok (.aload_n 0, 1) := by decide +kernel
theorem dL_law_384 : decode code 384 = .ok (.iload 4, 2) := by decide +kernel
theorem dL_law_386 : decode code 386 = .ok (.iconst 1, 1) := by decide +kernel
theorem dL_law_387 : decode code 387 = .ok (.iadd, 1) := by decide +kernel
theorem dL_law_388 : decode code 388 = .ok (.iaload, 1) := by decide +kernel
theorem dL_law_389 : decode code 389 = .ok (.aload_n 0, 1) := by decide +kernel
theorem dL_law_390 : decode code 390 = .ok (.iload 4, 2) := by decide +kernel
theorem dL_law_392 : decode code 392 = .ok (.iconst 2, 1) := by decide +kernel
theorem dL_law_393 : decode code 393 = .ok (.iadd, 1) := by decide +kernel
theorem dL_law_394 : decode code 394 = .ok (.iaload, 1) := by decide +kernel
theorem dL_law_395 : decode code 395 = .ok (.aload_n 3, 1) := by decide +kernel
theorem dL_law_396 : decode code 396 = .ok (.invokestatic 42, 3) := by decide +kernel
theorem dL_law_399 : decode code 399 = .ok (.istore 5, 2) := by decide +kernel
theorem dL_law_401 : decode code 401 = .ok (.aload_n 2, 1) := by decide +kernel
theorem dL_law_402 : decode code 402 = .ok (.aload_n 0, 1) := by decide +kernel
theorem dL_law_403 : decode code 403 = .ok (.iload 4, 2) := by decide +kernel
theorem dL_law_405 : decode code 405 = .ok (.iconst 1, 1) := by decide +kernel
theorem dL_law_406 : decode code 406 = .ok (.iadd, 1) := by decide +kernel
theorem dL_law_407 : decode code 407 = .ok (.iaload, 1) := by decide +kernel
theorem dL_law_408 : decode code 408 = .ok (.aload_n 0, 1) := by decide +kernel
theorem dL_law_409 : decode code 409 = .ok (.iload 4, 2) := by decide +kernel
theorem dL_law_411 : decode code 411 = .ok (.iconst 2, 1) := by decide +kernel
theorem dL_law_412 : decode code 412 = .ok (.iadd, 1) := by decide +kernel
theorem dL_law_413 : decode code 413 = .ok (.iaload, 1) := by decide +kernel
theorem dL_law_414 : decode code 414 = .ok (.invokevirtual 47, 3) := by decide +kernel
theorem dL_law_417 : decode code 417 = .ok (.istore 6, 2) := by decide +kernel
theorem dL_law_419 : decode code 419 = .ok (.goto 1012, 3) := by decide +kernel
theorem dL_law_422 : decode code 422 = .ok (.aload_n 1, 1) := by decide +kernel
theorem dL_law_423 : decode code 423 = .ok (.aload_n 0, 1) := by decide +kernel
theorem dL_law_424 : decode code 424 = .ok (.iload 4, 2) := by decide +kernel
theorem dL_law_426 : decode code 426 = .ok (.iconst 1, 1) := by decide +kernel
theorem dL_law_427 : decode code 427 = .ok (.iadd, 1) := by decide +kernel
theorem dL_law_428 : decode code 428 = .ok (.iaload, 1) := by decide +kernel
theorem dL_law_429 : decode code 429 = .ok (.aload_n 0, 1) := by decide +kernel
theorem dL_law_430 : decode code 430 = .ok (.iload 4, 2) := by decide +kernel
theorem dL_law_432 : decode code 432 = .ok (.iconst 2, 1) := by decide +kernel
theorem dL_law_433 : decode code 433 = .ok (.iadd, 1) := by decide +kernel
theorem dL_law_434 : decode code 434 = .ok (.iaload, 1) := by decide +kernel
theorem dL_law_435 : decode code 435 = .ok (.aload_n 0, 1) := by decide +kernel
theorem dL_law_436 : decode code 436 = .ok (.iload 4, 2) := by decide +kernel
theorem dL_law_438 : decode code 438 = .ok (.iconst 3, 1) := by decide +kernel
theorem dL_law_439 : decode code 439 = .ok (.iadd, 1) := by decide +kernel
theorem dL_law_440 : decode code 440 = .ok (.iaload, 1) := by decide +kernel
theorem dL_law_441 : decode code 441 = .ok (.invokevirtual 48, 3) := by decide +kernel
theorem dL_law_444 : decode code 444 = .ok (.pop, 1) := by decide +kernel
theorem dL_law_445 : decode code 445 = .ok (.aload_n 2, 1) := by decide +kernel
theorem dL_law_446 : decode code 446 = .ok (.aload_n 0, 1) := by decide +kernel
theorem dL_law_447 : decode code 447 = .ok (.iload 4, 2) := by decide +kernel
theorem dL_law_449 : decode code 449 = .ok (.iconst 1, 1) := by decide +kernel
theorem dL_law_450 : decode code 450 = .ok (.iadd, 1) := by decide +kernel
theorem dL_law_451 : decode code 451 = .ok (.iaload, 1) := by decide +kernel
theorem dL_law_452 : decode code 452 = .ok (.aload_n 0, 1) := by decide +kernel
theorem dL_law_453 : decode code 453 = .ok (.iload 4, 2) := by decide +kernel
theorem dL_law_455 : decode code 455 = .ok (.iconst 2, 1) := by decide +kernel
theorem dL_law_456 : decode code 456 = .ok (.iadd, 1) := by decide +kernel
theorem dL_law_457 : decode code 457 = .ok (.iaload, 1) := by decide +kernel
theorem dL_law_458 : decode code 458 = .ok (.aload_n 0, 1) := by decide +kernel
theorem dL_law_459 : decode code 459 = .ok (.iload 4, 2) := by decide +kernel
theorem dL_law_461 : decode code 461 = .ok (.iconst 3, 1) := by decide +kernel
theorem dL_law_462 : decode code 462 = .ok (.iadd, 1) := by decide +kernel
theorem dL_law_463 : decode code 463 = .ok (.iaload, 1) := by decide +kernel
theorem dL_law_464 : decode code 464 = .ok (.invokevirtual 52, 3) := by decide +kernel
theorem dL_law_467 : decode code 467 = .ok (.pop, 1) := by decide +kernel
theorem dL_law_468 : decode code 468 = .ok (.goto 963, 3) := by decide +kernel
theorem dL_law_471 : decode code 471 = .ok (.aload_n 1, 1) := by decide +kernel
theorem dL_law_472 : decode code 472 = .ok (.aload_n 0, 1) := by decide +kernel
theorem dL_law_473 : decode code 473 = .ok (.iload 4, 2) := by decide +kernel
theorem dL_law_475 : decode code 475 = .ok (.iconst 1, 1) := by decide +kernel
theorem dL_law_476 : decode code 476 = .ok (.iadd, 1) := by decide +kernel
theorem dL_law_477 : decode code 477 = .ok (.iaload, 1) := by decide +kernel
theorem dL_law_478 : decode code 478 = .ok (.invokevirtual 53, 3) := by decide +kernel
