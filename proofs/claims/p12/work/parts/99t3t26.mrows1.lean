theorem dX13_readRiver_201 : decode cX13_readRiver 201 = .ok (.if_icmp .ge 34, 3) := by decide +kernel
theorem dX13_readRiver_204 : decode cX13_readRiver 204 = .ok (.aload_n 0, 1) := by decide +kernel
theorem dX13_readRiver_205 : decode cX13_readRiver 205 = .ok (.getfield 193, 3) := by decide +kernel
theorem dX13_readRiver_208 : decode cX13_readRiver 208 = .ok (.ifCond .ne 27, 3) := by decide +kernel
theorem dX13_readRiver_211 : decode cX13_readRiver 211 = .ok (.aload_n 0, 1) := by decide +kernel
theorem dX13_readRiver_212 : decode cX13_readRiver 212 = .ok (.getfield 99, 3) := by decide +kernel
theorem dX13_readRiver_215 : decode cX13_readRiver 215 = .ok (.iload_n 3, 1) := by decide +kernel
theorem dX13_readRiver_216 : decode cX13_readRiver 216 = .ok (.iconst 4, 1) := by decide +kernel
theorem dX13_readRiver_217 : decode cX13_readRiver 217 = .ok (.iadd, 1) := by decide +kernel
theorem dX13_readRiver_218 : decode cX13_readRiver 218 = .ok (.iload 4, 2) := by decide +kernel
theorem dX13_readRiver_220 : decode cX13_readRiver 220 = .ok (.iadd, 1) := by decide +kernel
theorem dX13_readRiver_221 : decode cX13_readRiver 221 = .ok (.aload_n 0, 1) := by decide +kernel
theorem dX13_readRiver_222 : decode cX13_readRiver 222 = .ok (.iconst 0, 1) := by decide +kernel
theorem dX13_readRiver_223 : decode cX13_readRiver 223 = .ok (.bipush 99, 2) := by decide +kernel
theorem dX13_readRiver_225 : decode cX13_readRiver 225 = .ok (.invokevirtual 211, 3) := by decide +kernel
theorem dX13_readRiver_228 : decode cX13_readRiver 228 = .ok (.iastore, 1) := by decide +kernel
theorem dX13_readRiver_229 : decode cX13_readRiver 229 = .ok (.iinc 4 1, 3) := by decide +kernel
theorem dX13_readRiver_232 : decode cX13_readRiver 232 = .ok (.goto (-34), 3) := by decide +kernel
theorem dX13_readRiver_235 : decode cX13_readRiver 235 = .ok (.aload_n 0, 1) := by decide +kernel
theorem dX13_readRiver_236 : decode cX13_readRiver 236 = .ok (.iconst 5, 1) := by decide +kernel
theorem dX13_readRiver_237 : decode cX13_readRiver 237 = .ok (.invokevirtual 205, 3) := by decide +kernel
theorem dX13_readRiver_240 : decode cX13_readRiver 240 = .ok (.istore 4, 2) := by decide +kernel
theorem dX13_readRiver_242 : decode cX13_readRiver 242 = .ok (.aload_n 0, 1) := by decide +kernel
theorem dX13_readRiver_243 : decode cX13_readRiver 243 = .ok (.getfield 99, 3) := by decide +kernel
theorem dX13_readRiver_246 : decode cX13_readRiver 246 = .ok (.iload_n 3, 1) := by decide +kernel
theorem dX13_readRiver_247 : decode cX13_readRiver 247 = .ok (.bipush 8, 2) := by decide +kernel
theorem dX13_readRiver_249 : decode cX13_readRiver 249 = .ok (.iadd, 1) := by decide +kernel
theorem dX13_readRiver_250 : decode cX13_readRiver 250 = .ok (.iload 4, 2) := by decide +kernel
theorem dX13_readRiver_252 : decode cX13_readRiver 252 = .ok (.ifCond .eq 14, 3) := by decide +kernel
theorem dX13_readRiver_255 : decode cX13_readRiver 255 = .ok (.aload_n 0, 1) := by decide +kernel
theorem dX13_readRiver_256 : decode cX13_readRiver 256 = .ok (.iconst 1, 1) := by decide +kernel
theorem dX13_readRiver_257 : decode cX13_readRiver 257 = .ok (.sipush 999, 3) := by decide +kernel
theorem dX13_readRiver_260 : decode cX13_readRiver 260 = .ok (.invokevirtual 211, 3) := by decide +kernel
theorem dX13_readRiver_263 : decode cX13_readRiver 263 = .ok (.goto 4, 3) := by decide +kernel
theorem dX13_readRiver_266 : decode cX13_readRiver 266 = .ok (.iconst (-1), 1) := by decide +kernel
theorem dX13_readRiver_267 : decode cX13_readRiver 267 = .ok (.iastore, 1) := by decide +kernel
theorem dX13_readRiver_268 : decode cX13_readRiver 268 = .ok (.aload_n 0, 1) := by decide +kernel
theorem dX13_readRiver_269 : decode cX13_readRiver 269 = .ok (.getfield 99, 3) := by decide +kernel
theorem dX13_readRiver_272 : decode cX13_readRiver 272 = .ok (.iload_n 3, 1) := by decide +kernel
theorem dX13_readRiver_273 : decode cX13_readRiver 273 = .ok (.bipush 9, 2) := by decide +kernel
theorem dX13_readRiver_275 : decode cX13_readRiver 275 = .ok (.iadd, 1) := by decide +kernel
theorem dX13_readRiver_276 : decode cX13_readRiver 276 = .ok (.iload 4, 2) := by decide +kernel
theorem dX13_readRiver_278 : decode cX13_readRiver 278 = .ok (.ifCond .eq 28, 3) := by decide +kernel
theorem dX13_readRiver_281 : decode cX13_readRiver 281 = .ok (.aload_n 0, 1) := by decide +kernel
theorem dX13_readRiver_282 : decode cX13_readRiver 282 = .ok (.bipush 7, 2) := by decide +kernel
theorem dX13_readRiver_284 : decode cX13_readRiver 284 = .ok (.aload_n 0, 1) := by decide +kernel
theorem dX13_readRiver_285 : decode cX13_readRiver 285 = .ok (.getfield 99, 3) := by decide +kernel
theorem dX13_readRiver_288 : decode cX13_readRiver 288 = .ok (.iload_n 3, 1) := by decide +kernel
theorem dX13_readRiver_289 : decode cX13_readRiver 289 = .ok (.iconst 2, 1) := by decide +kernel
theorem dX13_readRiver_290 : decode cX13_readRiver 290 = .ok (.iadd, 1) := by decide +kernel
theorem dX13_readRiver_291 : decode cX13_readRiver 291 = .ok (.iaload, 1) := by decide +kernel
theorem dX13_readRiver_292 : decode cX13_readRiver 292 = .ok (.aload_n 0, 1) := by decide +kernel
theorem dX13_readRiver_293 : decode cX13_readRiver 293 = .ok (.getfield 99, 3) := by decide +kernel
theorem dX13_readRiver_296 : decode cX13_readRiver 296 = .ok (.iload_n 3, 1) := by decide +kernel
theorem dX13_readRiver_297 : decode cX13_readRiver 297 = .ok (.iconst 1, 1) := by decide +kernel
theorem dX13_readRiver_298 : decode cX13_readRiver 298 = .ok (.iadd, 1) := by decide +kernel
theorem dX13_readRiver_299 : decode cX13_readRiver 299 = .ok (.iaload, 1) := by decide +kernel
theorem dX13_readRiver_300 : decode cX13_readRiver 300 = .ok (.invokevirtual 247, 3) := by decide +kernel
theorem dX13_readRiver_303 : decode cX13_readRiver 303 = .ok (.goto 4, 3) := by decide +kernel
theorem dX13_readRiver_306 : decode cX13_readRiver 306 = .ok (.iconst 0, 1) := by decide +kernel
theorem dX13_readRiver_307 : decode cX13_readRiver 307 = .ok (.iastore, 1) := by decide +kernel
theorem dX13_readRiver_308 : decode cX13_readRiver 308 = .ok (.aload_n 0, 1) := by decide +kernel
theorem dX13_readRiver_309 : decode cX13_readRiver 309 = .ok (.bipush 6, 2) := by decide +kernel
theorem dX13_readRiver_311 : decode cX13_readRiver 311 = .ok (.invokevirtual 205, 3) := by decide +kernel
theorem dX13_readRiver_314 : decode cX13_readRiver 314 = .ok (.istore 5, 2) := by decide +kernel
theorem dX13_readRiver_316 : decode cX13_readRiver 316 = .ok (.aload_n 0, 1) := by decide +kernel
theorem dX13_readRiver_317 : decode cX13_readRiver 317 = .ok (.getfield 99, 3) := by decide +kernel
theorem dX13_readRiver_320 : decode cX13_readRiver 320 = .ok (.iload_n 3, 1) := by decide +kernel
theorem dX13_readRiver_321 : decode cX13_readRiver 321 = .ok (.bipush 10, 2) := by decide +kernel
theorem dX13_readRiver_323 : decode cX13_readRiver 323 = .ok (.iadd, 1) := by decide +kernel
theorem dX13_readRiver_324 : decode cX13_readRiver 324 = .ok (.iload 5, 2) := by decide +kernel
theorem dX13_readRiver_326 : decode cX13_readRiver 326 = .ok (.ifCond .eq 14, 3) := by decide +kernel
theorem dX13_readRiver_329 : decode cX13_readRiver 329 = .ok (.aload_n 0, 1) := by decide +kernel
theorem dX13_readRiver_330 : decode cX13_readRiver 330 = .ok (.iconst 0, 1) := by decide +kernel
theorem dX13_readRiver_331 : decode cX13_readRiver 331 = .ok (.sipush 999, 3) := by decide +kernel
theorem dX13_readRiver_334 : decode cX13_readRiver 334 = .ok (.invokevirtual 211, 3) := by decide +kernel
theorem dX13_readRiver_337 : decode cX13_readRiver 337 = .ok (.goto 4, 3) := by decide +kernel
theorem dX13_readRiver_340 : decode cX13_readRiver 340 = .ok (.iconst (-1), 1) := by decide +kernel
theorem dX13_readRiver_341 : decode cX13_readRiver 341 = .ok (.iastore, 1) := by decide +kernel
theorem dX13_readRiver_342 : decode cX13_readRiver 342 = .ok (.aload_n 0, 1) := by decide +kernel
theorem dX13_readRiver_343 : decode cX13_readRiver 343 = .ok (.getfield 99, 3) := by decide +kernel
theorem dX13_readRiver_346 : decode cX13_readRiver 346 = .ok (.iload_n 3, 1) := by decide +kernel
theorem dX13_readRiver_347 : decode cX13_readRiver 347 = .ok (.bipush 11, 2) := by decide +kernel
theorem dX13_readRiver_349 : decode cX13_readRiver 349 = .ok (.iadd, 1) := by decide +kernel
theorem dX13_readRiver_350 : decode cX13_readRiver 350 = .ok (.iload 5, 2) := by decide +kernel
theorem dX13_readRiver_352 : decode cX13_readRiver 352 = .ok (.ifCond .eq 28, 3) := by decide +kernel
theorem dX13_readRiver_355 : decode cX13_readRiver 355 = .ok (.aload_n 0, 1) := by decide +kernel
theorem dX13_readRiver_356 : decode cX13_readRiver 356 = .ok (.bipush 7, 2) := by decide +kernel
theorem dX13_readRiver_358 : decode cX13_readRiver 358 = .ok (.aload_n 0, 1) := by decide +kernel
theorem dX13_readRiver_359 : decode cX13_readRiver 359 = .ok (.getfield 99, 3) := by decide +kernel
theorem dX13_readRiver_362 : decode cX13_readRiver 362 = .ok (.iload_n 3, 1) := by decide +kernel
theorem dX13_readRiver_363 : decode cX13_readRiver 363 = .ok (.iconst 2, 1) := by decide +kernel
theorem dX13_readRiver_364 : decode cX13_readRiver 364 = .ok (.iadd, 1) := by decide +kernel
theorem dX13_readRiver_365 : decode cX13_readRiver 365 = .ok (.iaload, 1) := by decide +kernel
theorem dX13_readRiver_366 : decode cX13_readRiver 366 = .ok (.aload_n 0, 1) := by decide +kernel
theorem dX13_readRiver_367 : decode cX13_readRiver 367 = .ok (.getfield 99, 3) := by decide +kernel
theorem dX13_readRiver_370 : decode cX13_readRiver 370 = .ok (.iload_n 3, 1) := by decide +kernel
theorem dX13_readRiver_371 : decode cX13_readRiver 371 = .ok (.iconst 1, 1) := by decide +kernel
theorem dX13_readRiver_372 : decode cX13_readRiver 372 = .ok (.iadd, 1) := by decide +kernel
theorem dX13_readRiver_373 : decode cX13_readRiver 373 = .ok (.iaload, 1) := by decide +kernel
theorem dX13_readRiver_374 : decode cX13_readRiver 374 = .ok (.invokevirtual 247, 3) := by decide +kernel
theorem dX13_readRiver_377 : decode cX13_readRiver 377 = .ok (.goto 4, 3) := by decide +kernel
theorem dX13_readRiver_380 : decode cX13_readRiver 380 = .ok (.iconst 0, 1) := by decide +kernel
theorem dX13_readRiver_381 : decode cX13_readRiver 381 = .ok (.iastore, 1) := by decide +kernel
theorem dX13_readRiver_382 : decode cX13_readRiver 382 = .ok (.aload_n 0, 1) := by decide +kernel
theorem dX13_readRiver_383 : decode cX13_readRiver 383 = .ok (.bipush 8, 2) := by decide +kernel
theorem dX13_readRiver_385 : decode cX13_readRiver 385 = .ok (.invokevirtual 205, 3) := by decide +kernel
theorem dX13_readRiver_388 : decode cX13_readRiver 388 = .ok (.istore 6, 2) := by decide +kernel
theorem dX13_readRiver_390 : decode cX13_readRiver 390 = .ok (.aload_n 0, 1) := by decide +kernel
theorem dX13_readRiver_391 : decode cX13_readRiver 391 = .ok (.getfield 99, 3) := by decide +kernel
theorem dX13_readRiver_394 : decode cX13_readRiver 394 = .ok (.iload_n 3, 1) := by decide +kernel
theorem dX13_readRiver_395 : decode cX13_readRiver 395 = .ok (.bipush 12, 2) := by decide +kernel
theorem dX13_readRiver_397 : decode cX13_readRiver 397 = .ok (.iadd, 1) := by decide +kernel
theorem dX13_readRiver_398 : decode cX13_readRiver 398 = .ok (.iload 6, 2) := by decide +kernel
theorem dX13_readRiver_400 : decode cX13_readRiver 400 = .ok (.ifCond .eq 11, 3) := by decide +kernel
theorem dX13_readRiver_403 : decode cX13_readRiver 403 = .ok (.aload_n 0, 1) := by decide +kernel
theorem dX13_readRiver_404 : decode cX13_readRiver 404 = .ok (.iconst 1, 1) := by decide +kernel
theorem dX13_readRiver_405 : decode cX13_readRiver 405 = .ok (.invokevirtual 251, 3) := by decide +kernel
theorem dX13_readRiver_408 : decode cX13_readRiver 408 = .ok (.goto 4, 3) := by decide +kernel
theorem dX13_readRiver_411 : decode cX13_readRiver 411 = .ok (.iconst (-1), 1) := by decide +kernel
theorem dX13_readRiver_412 : decode cX13_readRiver 412 = .ok (.iastore, 1) := by decide +kernel
theorem dX13_readRiver_413 : decode cX13_readRiver 413 = .ok (.aload_n 0, 1) := by decide +kernel
theorem dX13_readRiver_414 : decode cX13_readRiver 414 = .ok (.dup, 1) := by decide +kernel
theorem dX13_readRiver_415 : decode cX13_readRiver 415 = .ok (.getfield 190, 3) := by decide +kernel
theorem dX13_readRiver_418 : decode cX13_readRiver 418 = .ok (.iload 6, 2) := by decide +kernel
theorem dX13_readRiver_420 : decode cX13_readRiver 420 = .ok (.ifCond .eq 14, 3) := by decide +kernel
theorem dX13_readRiver_423 : decode cX13_readRiver 423 = .ok (.aload_n 0, 1) := by decide +kernel
theorem dX13_readRiver_424 : decode cX13_readRiver 424 = .ok (.getfield 193, 3) := by decide +kernel
theorem dX13_readRiver_427 : decode cX13_readRiver 427 = .ok (.ifCond .ne 7, 3) := by decide +kernel
theorem dX13_readRiver_430 : decode cX13_readRiver 430 = .ok (.iconst 1, 1) := by decide +kernel
theorem dX13_readRiver_431 : decode cX13_readRiver 431 = .ok (.goto 4, 3) := by decide +kernel
theorem dX13_readRiver_434 : decode cX13_readRiver 434 = .ok (.iconst 0, 1) := by decide +kernel
theorem dX13_readRiver_435 : decode cX13_readRiver 435 = .ok (.iadd, 1) := by decide +kernel
theorem dX13_readRiver_436 : decode cX13_readRiver 436 = .ok (.putfield 190, 3) := by decide +kernel
theorem dX13_readRiver_439 : decode cX13_readRiver 439 = .ok (.aload_n 0, 1) := by decide +kernel
theorem dX13_readRiver_440 : decode cX13_readRiver 440 = .ok (.getfield 99, 3) := by decide +kernel
theorem dX13_readRiver_443 : decode cX13_readRiver 443 = .ok (.iload_n 3, 1) := by decide +kernel
theorem dX13_readRiver_444 : decode cX13_readRiver 444 = .ok (.bipush 13, 2) := by decide +kernel
theorem dX13_readRiver_446 : decode cX13_readRiver 446 = .ok (.iadd, 1) := by decide +kernel
theorem dX13_readRiver_447 : decode cX13_readRiver 447 = .ok (.aload_n 0, 1) := by decide +kernel
theorem dX13_readRiver_448 : decode cX13_readRiver 448 = .ok (.getfield 111, 3) := by decide +kernel
theorem dX13_readRiver_451 : decode cX13_readRiver 451 = .ok (.iload_n 1, 1) := by decide +kernel
theorem dX13_readRiver_452 : decode cX13_readRiver 452 = .ok (.laload, 1) := by decide +kernel
theorem dX13_readRiver_453 : decode cX13_readRiver 453 = .ok (.invokestatic 254, 3) := by decide +kernel
theorem dX13_readRiver_456 : decode cX13_readRiver 456 = .ok (.iastore, 1) := by decide +kernel
theorem dX13_readRiver_457 : decode cX13_readRiver 457 = .ok (.aload_n 0, 1) := by decide +kernel
theorem dX13_readRiver_458 : decode cX13_readRiver 458 = .ok (.getfield 99, 3) := by decide +kernel
theorem dX13_readRiver_461 : decode cX13_readRiver 461 = .ok (.bipush 110, 2) := by decide +kernel
theorem dX13_readRiver_463 : decode cX13_readRiver 463 = .ok (.dup2, 1) := by decide +kernel
theorem dX13_readRiver_464 : decode cX13_readRiver 464 = .ok (.iaload, 1) := by decide +kernel
theorem dX13_readRiver_465 : decode cX13_readRiver 465 = .ok (.iconst 1, 1) := by decide +kernel
theorem dX13_readRiver_466 : decode cX13_readRiver 466 = .ok (.iadd, 1) := by decide +kernel
theorem dX13_readRiver_467 : decode cX13_readRiver 467 = .ok (.iastore, 1) := by decide +kernel
theorem dX13_readRiver_468 : decode cX13_readRiver 468 = .ok (.return_, 1) := by decide +kernel
theorem dX13_readRange_0 : decode cX13_readRange 0 = .ok (.aload_n 0, 1) := by decide +kernel
theorem dX13_readRange_1 : decode cX13_readRange 1 = .ok (.getfield 99, 3) := by decide +kernel
theorem dX13_readRange_4 : decode cX13_readRange 4 = .ok (.bipush 111, 2) := by decide +kernel
theorem dX13_readRange_6 : decode cX13_readRange 6 = .ok (.iaload, 1) := by decide +kernel
theorem dX13_readRange_7 : decode cX13_readRange 7 = .ok (.istore_n 1, 1) := by decide +kernel
theorem dX13_readRange_8 : decode cX13_readRange 8 = .ok (.iload_n 1, 1) := by decide +kernel
theorem dX13_readRange_9 : decode cX13_readRange 9 = .ok (.iconst 4, 1) := by decide +kernel
theorem dX13_readRange_10 : decode cX13_readRange 10 = .ok (.if_icmp .ne 9, 3) := by decide +kernel
theorem dX13_readRange_13 : decode cX13_readRange 13 = .ok (.aload_n 0, 1) := by decide +kernel
theorem dX13_readRange_14 : decode cX13_readRange 14 = .ok (.iconst 5, 1) := by decide +kernel
theorem dX13_readRange_15 : decode cX13_readRange 15 = .ok (.invokevirtual 199, 3) := by decide +kernel
theorem dX13_readRange_18 : decode cX13_readRange 18 = .ok (.return_, 1) := by decide +kernel
theorem dX13_readRange_19 : decode cX13_readRange 19 = .ok (.aload_n 0, 1) := by decide +kernel
theorem dX13_readRange_20 : decode cX13_readRange 20 = .ok (.dup, 1) := by decide +kernel
theorem dX13_readRange_21 : decode cX13_readRange 21 = .ok (.getfield 190, 3) := by decide +kernel
theorem dX13_readRange_24 : decode cX13_readRange 24 = .ok (.iconst 1, 1) := by decide +kernel
theorem dX13_readRange_25 : decode cX13_readRange 25 = .ok (.iadd, 1) := by decide +kernel
theorem dX13_readRange_26 : decode cX13_readRange 26 = .ok (.putfield 190, 3) := by decide +kernel
theorem dX13_readRange_29 : decode cX13_readRange 29 = .ok (.aload_n 0, 1) := by decide +kernel
theorem dX13_readRange_30 : decode cX13_readRange 30 = .ok (.iconst 0, 1) := by decide +kernel
theorem dX13_readRange_31 : decode cX13_readRange 31 = .ok (.bipush 99, 2) := by decide +kernel
theorem dX13_readRange_33 : decode cX13_readRange 33 = .ok (.invokevirtual 211, 3) := by decide +kernel
theorem dX13_readRange_36 : decode cX13_readRange 36 = .ok (.istore_n 2, 1) := by decide +kernel
theorem dX13_readRange_37 : decode cX13_readRange 37 = .ok (.iconst 0, 1) := by decide +kernel
theorem dX13_readRange_38 : decode cX13_readRange 38 = .ok (.istore_n 3, 1) := by decide +kernel
theorem dX13_readRange_39 : decode cX13_readRange 39 = .ok (.iload_n 3, 1) := by decide +kernel
theorem dX13_readRange_40 : decode cX13_readRange 40 = .ok (.iload_n 1, 1) := by decide +kernel
theorem dX13_readRange_41 : decode cX13_readRange 41 = .ok (.if_icmp .ge 47, 3) := by decide +kernel
theorem dX13_readRange_44 : decode cX13_readRange 44 = .ok (.aload_n 0, 1) := by decide +kernel
theorem dX13_readRange_45 : decode cX13_readRange 45 = .ok (.getfield 193, 3) := by decide +kernel
theorem dX13_readRange_48 : decode cX13_readRange 48 = .ok (.ifCond .ne 40, 3) := by decide +kernel
theorem dX13_readRange_51 : decode cX13_readRange 51 = .ok (.aload_n 0, 1) := by decide +kernel
theorem dX13_readRange_52 : decode cX13_readRange 52 = .ok (.getfield 99, 3) := by decide +kernel
theorem dX13_readRange_55 : decode cX13_readRange 55 = .ok (.sipush 201, 3) := by decide +kernel
theorem dX13_readRange_58 : decode cX13_readRange 58 = .ok (.iconst 2, 1) := by decide +kernel
theorem dX13_readRange_59 : decode cX13_readRange 59 = .ok (.iload_n 3, 1) := by decide +kernel
theorem dX13_readRange_60 : decode cX13_readRange 60 = .ok (.imul, 1) := by decide +kernel
theorem dX13_readRange_61 : decode cX13_readRange 61 = .ok (.iadd, 1) := by decide +kernel
theorem dX13_readRange_62 : decode cX13_readRange 62 = .ok (.iaload, 1) := by decide +kernel
theorem dX13_readRange_63 : decode cX13_readRange 63 = .ok (.iload_n 2, 1) := by decide +kernel
theorem dX13_readRange_64 : decode cX13_readRange 64 = .ok (.if_icmp .ne 18, 3) := by decide +kernel
theorem dX13_readRange_67 : decode cX13_readRange 67 = .ok (.aload_n 0, 1) := by decide +kernel
theorem dX13_readRange_68 : decode cX13_readRange 68 = .ok (.dup, 1) := by decide +kernel
theorem dX13_readRange_69 : decode cX13_readRange 69 = .ok (.getfield 190, 3) := by decide +kernel
theorem dX13_readRange_72 : decode cX13_readRange 72 = .ok (.iconst 1, 1) := by decide +kernel
theorem dX13_readRange_73 : decode cX13_readRange 73 = .ok (.isub, 1) := by decide +kernel
theorem dX13_readRange_74 : decode cX13_readRange 74 = .ok (.putfield 190, 3) := by decide +kernel
theorem dX13_readRange_77 : decode cX13_readRange 77 = .ok (.aload_n 0, 1) := by decide +kernel
theorem dX13_readRange_78 : decode cX13_readRange 78 = .ok (.iconst 3, 1) := by decide +kernel
theorem dX13_readRange_79 : decode cX13_readRange 79 = .ok (.invokevirtual 199, 3) := by decide +kernel
theorem dX13_readRange_82 : decode cX13_readRange 82 = .ok (.iinc 3 1, 3) := by decide +kernel
theorem dX13_readRange_85 : decode cX13_readRange 85 = .ok (.goto (-46), 3) := by decide +kernel
theorem dX13_readRange_88 : decode cX13_readRange 88 = .ok (.aload_n 0, 1) := by decide +kernel
theorem dX13_readRange_89 : decode cX13_readRange 89 = .ok (.getfield 99, 3) := by decide +kernel
theorem dX13_readRange_92 : decode cX13_readRange 92 = .ok (.sipush 201, 3) := by decide +kernel
theorem dX13_readRange_95 : decode cX13_readRange 95 = .ok (.iconst 2, 1) := by decide +kernel
theorem dX13_readRange_96 : decode cX13_readRange 96 = .ok (.iload_n 1, 1) := by decide +kernel
theorem dX13_readRange_97 : decode cX13_readRange 97 = .ok (.imul, 1) := by decide +kernel
theorem dX13_readRange_98 : decode cX13_readRange 98 = .ok (.iadd, 1) := by decide +kernel
theorem dX13_readRange_99 : decode cX13_readRange 99 = .ok (.iload_n 2, 1) := by decide +kernel
theorem dX13_readRange_100 : decode cX13_readRange 100 = .ok (.iastore, 1) := by decide +kernel
theorem dX13_readRange_101 : decode cX13_readRange 101 = .ok (.aload_n 0, 1) := by decide +kernel
theorem dX13_readRange_102 : decode cX13_readRange 102 = .ok (.getfield 99, 3) := by decide +kernel
theorem dX13_readRange_105 : decode cX13_readRange 105 = .ok (.sipush 201, 3) := by decide +kernel
theorem dX13_readRange_108 : decode cX13_readRange 108 = .ok (.iconst 2, 1) := by decide +kernel
theorem dX13_readRange_109 : decode cX13_readRange 109 = .ok (.iload_n 1, 1) := by decide +kernel
theorem dX13_readRange_110 : decode cX13_readRange 110 = .ok (.imul, 1) := by decide +kernel
theorem dX13_readRange_111 : decode cX13_readRange 111 = .ok (.iadd, 1) := by decide +kernel
theorem dX13_readRange_112 : decode cX13_readRange 112 = .ok (.iconst 1, 1) := by decide +kernel
theorem dX13_readRange_113 : decode cX13_readRange 113 = .ok (.iadd, 1) := by decide +kernel
theorem dX13_readRange_114 : decode cX13_readRange 114 = .ok (.aload_n 0, 1) := by decide +kernel
theorem dX13_readRange_115 : decode cX13_readRange 115 = .ok (.bipush 10, 2) := by decide +kernel
theorem dX13_readRange_117 : decode cX13_readRange 117 = .ok (.iconst 1, 1) := by decide +kernel
theorem dX13_readRange_118 : decode cX13_readRange 118 = .ok (.bipush 99, 2) := by decide +kernel
theorem dX13_readRange_120 : decode cX13_readRange 120 = .ok (.invokevirtual 247, 3) := by decide +kernel
theorem dX13_readRange_123 : decode cX13_readRange 123 = .ok (.iastore, 1) := by decide +kernel
theorem dX13_readRange_124 : decode cX13_readRange 124 = .ok (.aload_n 0, 1) := by decide +kernel
theorem dX13_readRange_125 : decode cX13_readRange 125 = .ok (.getfield 99, 3) := by decide +kernel
theorem dX13_readRange_128 : decode cX13_readRange 128 = .ok (.bipush 111, 2) := by decide +kernel
theorem dX13_readRange_130 : decode cX13_readRange 130 = .ok (.dup2, 1) := by decide +kernel
theorem dX13_readRange_131 : decode cX13_readRange 131 = .ok (.iaload, 1) := by decide +kernel
theorem dX13_readRange_132 : decode cX13_readRange 132 = .ok (.iconst 1, 1) := by decide +kernel
theorem dX13_readRange_133 : decode cX13_readRange 133 = .ok (.iadd, 1) := by decide +kernel
theorem dX13_readRange_134 : decode cX13_readRange 134 = .ok (.iastore, 1) := by decide +kernel
theorem dX13_readRange_135 : decode cX13_readRange 135 = .ok (.return_, 1) := by decide +kernel
theorem dX13_readOnce_0 : decode cX13_readOnce 0 = .ok (.aload_n 0, 1) := by decide +kernel
theorem dX13_readOnce_1 : decode cX13_readOnce 1 = .ok (.bipush 11, 2) := by decide +kernel
theorem dX13_readOnce_3 : decode cX13_readOnce 3 = .ok (.invokevirtual 202, 3) := by decide +kernel
theorem dX13_readOnce_6 : decode cX13_readOnce 6 = .ok (.ifCond .eq 7, 3) := by decide +kernel
theorem dX13_readOnce_9 : decode cX13_readOnce 9 = .ok (.iconst 0, 1) := by decide +kernel
theorem dX13_readOnce_10 : decode cX13_readOnce 10 = .ok (.goto 43, 3) := by decide +kernel
theorem dX13_readOnce_13 : decode cX13_readOnce 13 = .ok (.aload_n 0, 1) := by decide +kernel
theorem dX13_readOnce_14 : decode cX13_readOnce 14 = .ok (.bipush 12, 2) := by decide +kernel
theorem dX13_readOnce_16 : decode cX13_readOnce 16 = .ok (.invokevirtual 202, 3) := by decide +kernel
theorem dX13_readOnce_19 : decode cX13_readOnce 19 = .ok (.ifCond .eq 7, 3) := by decide +kernel
theorem dX13_readOnce_22 : decode cX13_readOnce 22 = .ok (.iconst 1, 1) := by decide +kernel
theorem dX13_readOnce_23 : decode cX13_readOnce 23 = .ok (.goto 30, 3) := by decide +kernel
theorem dX13_readOnce_26 : decode cX13_readOnce 26 = .ok (.aload_n 0, 1) := by decide +kernel
theorem dX13_readOnce_27 : decode cX13_readOnce 27 = .ok (.bipush 14, 2) := by decide +kernel
theorem dX13_readOnce_29 : decode cX13_readOnce 29 = .ok (.invokevirtual 202, 3) := by decide +kernel
theorem dX13_readOnce_32 : decode cX13_readOnce 32 = .ok (.ifCond .eq 7, 3) := by decide +kernel
theorem dX13_readOnce_35 : decode cX13_readOnce 35 = .ok (.iconst 2, 1) := by decide +kernel
theorem dX13_readOnce_36 : decode cX13_readOnce 36 = .ok (.goto 17, 3) := by decide +kernel
theorem dX13_readOnce_39 : decode cX13_readOnce 39 = .ok (.aload_n 0, 1) := by decide +kernel
theorem dX13_readOnce_40 : decode cX13_readOnce 40 = .ok (.bipush 15, 2) := by decide +kernel
theorem dX13_readOnce_42 : decode cX13_readOnce 42 = .ok (.invokevirtual 202, 3) := by decide +kernel
theorem dX13_readOnce_45 : decode cX13_readOnce 45 = .ok (.ifCond .eq 7, 3) := by decide +kernel
theorem dX13_readOnce_48 : decode cX13_readOnce 48 = .ok (.iconst 3, 1) := by decide +kernel
theorem dX13_readOnce_49 : decode cX13_readOnce 49 = .ok (.goto 4, 3) := by decide +kernel
theorem dX13_readOnce_52 : decode cX13_readOnce 52 = .ok (.iconst (-1), 1) := by decide +kernel
theorem dX13_readOnce_53 : decode cX13_readOnce 53 = .ok (.istore_n 1, 1) := by decide +kernel
theorem dX13_readOnce_54 : decode cX13_readOnce 54 = .ok (.iload_n 1, 1) := by decide +kernel
theorem dX13_readOnce_55 : decode cX13_readOnce 55 = .ok (.ifCond .ge 11, 3) := by decide +kernel
theorem dX13_readOnce_58 : decode cX13_readOnce 58 = .ok (.aload_n 0, 1) := by decide +kernel
theorem dX13_readOnce_59 : decode cX13_readOnce 59 = .ok (.iconst 1, 1) := by decide +kernel
theorem dX13_readOnce_60 : decode cX13_readOnce 60 = .ok (.invokevirtual 199, 3) := by decide +kernel
theorem dX13_readOnce_63 : decode cX13_readOnce 63 = .ok (.goto 20, 3) := by decide +kernel
theorem dX13_readOnce_66 : decode cX13_readOnce 66 = .ok (.aload_n 0, 1) := by decide +kernel
theorem dX13_readOnce_67 : decode cX13_readOnce 67 = .ok (.getfield 232, 3) := by decide +kernel
theorem dX13_readOnce_70 : decode cX13_readOnce 70 = .ok (.iload_n 1, 1) := by decide +kernel
theorem dX13_readOnce_71 : decode cX13_readOnce 71 = .ok (.ishr, 1) := by decide +kernel
theorem dX13_readOnce_72 : decode cX13_readOnce 72 = .ok (.iconst 1, 1) := by decide +kernel
theorem dX13_readOnce_73 : decode cX13_readOnce 73 = .ok (.iand, 1) := by decide +kernel
theorem dX13_readOnce_74 : decode cX13_readOnce 74 = .ok (.iconst 1, 1) := by decide +kernel
theorem dX13_readOnce_75 : decode cX13_readOnce 75 = .ok (.if_icmp .ne 8, 3) := by decide +kernel
theorem dX13_readOnce_78 : decode cX13_readOnce 78 = .ok (.aload_n 0, 1) := by decide +kernel
theorem dX13_readOnce_79 : decode cX13_readOnce 79 = .ok (.iconst 3, 1) := by decide +kernel
theorem dX13_readOnce_80 : decode cX13_readOnce 80 = .ok (.invokevirtual 199, 3) := by decide +kernel
theorem dX13_readOnce_83 : decode cX13_readOnce 83 = .ok (.aload_n 0, 1) := by decide +kernel
theorem dX13_readOnce_84 : decode cX13_readOnce 84 = .ok (.getfield 193, 3) := by decide +kernel
theorem dX13_readOnce_87 : decode cX13_readOnce 87 = .ok (.ifCond .le 4, 3) := by decide +kernel
theorem dX13_readOnce_90 : decode cX13_readOnce 90 = .ok (.return_, 1) := by decide +kernel
theorem dX13_readOnce_91 : decode cX13_readOnce 91 = .ok (.aload_n 0, 1) := by decide +kernel
theorem dX13_readOnce_92 : decode cX13_readOnce 92 = .ok (.dup, 1) := by decide +kernel
theorem dX13_readOnce_93 : decode cX13_readOnce 93 = .ok (.getfield 232, 3) := by decide +kernel
theorem dX13_readOnce_96 : decode cX13_readOnce 96 = .ok (.iconst 1, 1) := by decide +kernel
theorem dX13_readOnce_97 : decode cX13_readOnce 97 = .ok (.iload_n 1, 1) := by decide +kernel
theorem dX13_readOnce_98 : decode cX13_readOnce 98 = .ok (.ishl, 1) := by decide +kernel
theorem dX13_readOnce_99 : decode cX13_readOnce 99 = .ok (.ior, 1) := by decide +kernel
theorem dX13_readOnce_100 : decode cX13_readOnce 100 = .ok (.putfield 232, 3) := by decide +kernel
theorem dX13_readOnce_103 : decode cX13_readOnce 103 = .ok (.aload_n 0, 1) := by decide +kernel
theorem dX13_readOnce_104 : decode cX13_readOnce 104 = .ok (.dup, 1) := by decide +kernel
theorem dX13_readOnce_105 : decode cX13_readOnce 105 = .ok (.getfield 190, 3) := by decide +kernel
theorem dX13_readOnce_108 : decode cX13_readOnce 108 = .ok (.iconst 1, 1) := by decide +kernel
theorem dX13_readOnce_109 : decode cX13_readOnce 109 = .ok (.iadd, 1) := by decide +kernel
theorem dX13_readOnce_110 : decode cX13_readOnce 110 = .ok (.putfield 190, 3) := by decide +kernel
theorem dX13_readOnce_113 : decode cX13_readOnce 113 = .ok (.iload_n 1, 1) := by decide +kernel
theorem dX13_readOnce_114 : decode cX13_readOnce 114 = .ok (.ifCond .ne 20, 3) := by decide +kernel
theorem dX13_readOnce_117 : decode cX13_readOnce 117 = .ok (.aload_n 0, 1) := by decide +kernel
theorem dX13_readOnce_118 : decode cX13_readOnce 118 = .ok (.getfield 99, 3) := by decide +kernel
theorem dX13_readOnce_121 : decode cX13_readOnce 121 = .ok (.bipush 112, 2) := by decide +kernel
theorem dX13_readOnce_123 : decode cX13_readOnce 123 = .ok (.aload_n 0, 1) := by decide +kernel
theorem dX13_readOnce_124 : decode cX13_readOnce 124 = .ok (.iconst 0, 1) := by decide +kernel
theorem dX13_readOnce_125 : decode cX13_readOnce 125 = .ok (.bipush 9, 2) := by decide +kernel
theorem dX13_readOnce_127 : decode cX13_readOnce 127 = .ok (.invokevirtual 211, 3) := by decide +kernel
theorem dX13_readOnce_130 : decode cX13_readOnce 130 = .ok (.iastore, 1) := by decide +kernel
theorem dX13_readOnce_131 : decode cX13_readOnce 131 = .ok (.goto 81, 3) := by decide +kernel
theorem dX13_readOnce_134 : decode cX13_readOnce 134 = .ok (.iload_n 1, 1) := by decide +kernel
theorem dX13_readOnce_135 : decode cX13_readOnce 135 = .ok (.iconst 1, 1) := by decide +kernel
theorem dX13_readOnce_136 : decode cX13_readOnce 136 = .ok (.if_icmp .ne 36, 3) := by decide +kernel
theorem dX13_readOnce_139 : decode cX13_readOnce 139 = .ok (.aload_n 0, 1) := by decide +kernel
theorem dX13_readOnce_140 : decode cX13_readOnce 140 = .ok (.getfield 99, 3) := by decide +kernel
theorem dX13_readOnce_143 : decode cX13_readOnce 143 = .ok (.bipush 113, 2) := by decide +kernel
theorem dX13_readOnce_145 : decode cX13_readOnce 145 = .ok (.aload_n 0, 1) := by decide +kernel
theorem dX13_readOnce_146 : decode cX13_readOnce 146 = .ok (.iconst 0, 1) := by decide +kernel
theorem dX13_readOnce_147 : decode cX13_readOnce 147 = .ok (.bipush 10, 2) := by decide +kernel
theorem dX13_readOnce_149 : decode cX13_readOnce 149 = .ok (.invokevirtual 211, 3) := by decide +kernel
theorem dX13_readOnce_152 : decode cX13_readOnce 152 = .ok (.iastore, 1) := by decide +kernel
theorem dX13_readOnce_153 : decode cX13_readOnce 153 = .ok (.aload_n 0, 1) := by decide +kernel
theorem dX13_readOnce_154 : decode cX13_readOnce 154 = .ok (.getfield 99, 3) := by decide +kernel
theorem dX13_readOnce_157 : decode cX13_readOnce 157 = .ok (.bipush 114, 2) := by decide +kernel
theorem dX13_readOnce_159 : decode cX13_readOnce 159 = .ok (.aload_n 0, 1) := by decide +kernel
theorem dX13_readOnce_160 : decode cX13_readOnce 160 = .ok (.bipush 13, 2) := by decide +kernel
theorem dX13_readOnce_162 : decode cX13_readOnce 162 = .ok (.iconst 0, 1) := by decide +kernel
theorem dX13_readOnce_163 : decode cX13_readOnce 163 = .ok (.bipush 99, 2) := by decide +kernel
theorem dX13_readOnce_165 : decode cX13_readOnce 165 = .ok (.invokevirtual 247, 3) := by decide +kernel
theorem dX13_readOnce_168 : decode cX13_readOnce 168 = .ok (.iastore, 1) := by decide +kernel
theorem dX13_readOnce_169 : decode cX13_readOnce 169 = .ok (.goto 43, 3) := by decide +kernel
theorem dX13_readOnce_172 : decode cX13_readOnce 172 = .ok (.aload_n 0, 1) := by decide +kernel
theorem dX13_readOnce_173 : decode cX13_readOnce 173 = .ok (.getfield 99, 3) := by decide +kernel
theorem dX13_readOnce_176 : decode cX13_readOnce 176 = .ok (.bipush 115, 2) := by decide +kernel
theorem dX13_readOnce_178 : decode cX13_readOnce 178 = .ok (.iload_n 1, 1) := by decide +kernel
theorem dX13_readOnce_179 : decode cX13_readOnce 179 = .ok (.iadd, 1) := by decide +kernel
theorem dX13_readOnce_180 : decode cX13_readOnce 180 = .ok (.iconst 2, 1) := by decide +kernel
theorem dX13_readOnce_181 : decode cX13_readOnce 181 = .ok (.isub, 1) := by decide +kernel
theorem dX13_readOnce_182 : decode cX13_readOnce 182 = .ok (.aload_n 0, 1) := by decide +kernel
theorem dX13_readOnce_183 : decode cX13_readOnce 183 = .ok (.getfield 229, 3) := by decide +kernel
theorem dX13_readOnce_186 : decode cX13_readOnce 186 = .ok (.iastore, 1) := by decide +kernel
theorem dX13_readOnce_187 : decode cX13_readOnce 187 = .ok (.aload_n 0, 1) := by decide +kernel
theorem dX13_readOnce_188 : decode cX13_readOnce 188 = .ok (.iload_n 1, 1) := by decide +kernel
theorem dX13_readOnce_189 : decode cX13_readOnce 189 = .ok (.iconst 2, 1) := by decide +kernel
theorem dX13_readOnce_190 : decode cX13_readOnce 190 = .ok (.if_icmp .ne 7, 3) := by decide +kernel
theorem dX13_readOnce_193 : decode cX13_readOnce 193 = .ok (.iconst 4, 1) := by decide +kernel
theorem dX13_readOnce_194 : decode cX13_readOnce 194 = .ok (.goto 4, 3) := by decide +kernel
theorem dX13_readOnce_197 : decode cX13_readOnce 197 = .ok (.iconst 2, 1) := by decide +kernel
theorem dX13_readOnce_198 : decode cX13_readOnce 198 = .ok (.putfield 258, 3) := by decide +kernel
theorem dX13_readOnce_201 : decode cX13_readOnce 201 = .ok (.aload_n 0, 1) := by decide +kernel
theorem dX13_readOnce_202 : decode cX13_readOnce 202 = .ok (.iconst 0, 1) := by decide +kernel
theorem dX13_readOnce_203 : decode cX13_readOnce 203 = .ok (.invokevirtual 261, 3) := by decide +kernel
theorem dX13_readOnce_206 : decode cX13_readOnce 206 = .ok (.aload_n 0, 1) := by decide +kernel
theorem dX13_readOnce_207 : decode cX13_readOnce 207 = .ok (.iconst 0, 1) := by decide +kernel
theorem dX13_readOnce_208 : decode cX13_readOnce 208 = .ok (.iconst 0, 1) := by decide +kernel
theorem dX13_readOnce_209 : decode cX13_readOnce 209 = .ok (.invokevirtual 264, 3) := by decide +kernel
theorem dX13_readOnce_212 : decode cX13_readOnce 212 = .ok (.return_, 1) := by decide +kernel
theorem dX13_vows_0 : decode cX13_vows 0 = .ok (.aload_n 0, 1) := by decide +kernel
theorem dX13_vows_1 : decode cX13_vows 1 = .ok (.iconst 0, 1) := by decide +kernel
theorem dX13_vows_2 : decode cX13_vows 2 = .ok (.putfield 1, 3) := by decide +kernel
theorem dX13_vows_5 : decode cX13_vows 5 = .ok (.aload_n 0, 1) := by decide +kernel
theorem dX13_vows_6 : decode cX13_vows 6 = .ok (.invokevirtual 226, 3) := by decide +kernel
theorem dX13_vows_9 : decode cX13_vows 9 = .ok (.iconst 0, 1) := by decide +kernel
theorem dX13_vows_10 : decode cX13_vows 10 = .ok (.istore_n 1, 1) := by decide +kernel
theorem dX13_vows_11 : decode cX13_vows 11 = .ok (.aload_n 0, 1) := by decide +kernel
theorem dX13_vows_12 : decode cX13_vows 12 = .ok (.getfield 193, 3) := by decide +kernel
theorem dX13_vows_15 : decode cX13_vows 15 = .ok (.ifCond .ne 240, 3) := by decide +kernel
theorem dX13_vows_18 : decode cX13_vows 18 = .ok (.aload_n 0, 1) := by decide +kernel
theorem dX13_vows_19 : decode cX13_vows 19 = .ok (.getfield 24, 3) := by decide +kernel
theorem dX13_vows_22 : decode cX13_vows 22 = .ok (.aload_n 0, 1) := by decide +kernel
theorem dX13_vows_23 : decode cX13_vows 23 = .ok (.getfield 190, 3) := by decide +kernel
theorem dX13_vows_26 : decode cX13_vows 26 = .ok (.iaload, 1) := by decide +kernel
theorem dX13_vows_27 : decode cX13_vows 27 = .ok (.ifCond .eq 228, 3) := by decide +kernel
theorem dX13_vows_30 : decode cX13_vows 30 = .ok (.aload_n 0, 1) := by decide +kernel
theorem dX13_vows_31 : decode cX13_vows 31 = .ok (.bipush 16, 2) := by decide +kernel
theorem dX13_vows_33 : decode cX13_vows 33 = .ok (.iconst 3, 1) := by decide +kernel
theorem dX13_vows_34 : decode cX13_vows 34 = .ok (.invokevirtual 215, 3) := by decide +kernel
theorem dX13_vows_37 : decode cX13_vows 37 = .ok (.istore_n 2, 1) := by decide +kernel
theorem dX13_vows_38 : decode cX13_vows 38 = .ok (.iload_n 2, 1) := by decide +kernel
theorem dX13_vows_39 : decode cX13_vows 39 = .ok (.ifCond .ge 11, 3) := by decide +kernel
theorem dX13_vows_42 : decode cX13_vows 42 = .ok (.aload_n 0, 1) := by decide +kernel
theorem dX13_vows_43 : decode cX13_vows 43 = .ok (.iconst 1, 1) := by decide +kernel
theorem dX13_vows_44 : decode cX13_vows 44 = .ok (.invokevirtual 199, 3) := by decide +kernel
theorem dX13_vows_47 : decode cX13_vows 47 = .ok (.goto 14, 3) := by decide +kernel
theorem dX13_vows_50 : decode cX13_vows 50 = .ok (.iload_n 1, 1) := by decide +kernel
theorem dX13_vows_51 : decode cX13_vows 51 = .ok (.bipush 24, 2) := by decide +kernel
theorem dX13_vows_53 : decode cX13_vows 53 = .ok (.if_icmp .ne 8, 3) := by decide +kernel
theorem dX13_vows_56 : decode cX13_vows 56 = .ok (.aload_n 0, 1) := by decide +kernel
theorem dX13_vows_57 : decode cX13_vows 57 = .ok (.iconst 5, 1) := by decide +kernel
theorem dX13_vows_58 : decode cX13_vows 58 = .ok (.invokevirtual 199, 3) := by decide +kernel
theorem dX13_vows_61 : decode cX13_vows 61 = .ok (.aload_n 0, 1) := by decide +kernel
theorem dX13_vows_62 : decode cX13_vows 62 = .ok (.dup, 1) := by decide +kernel
theorem dX13_vows_63 : decode cX13_vows 63 = .ok (.getfield 190, 3) := by decide +kernel
theorem dX13_vows_66 : decode cX13_vows 66 = .ok (.aload_n 0, 1) := by decide +kernel
theorem dX13_vows_67 : decode cX13_vows 67 = .ok (.getfield 193, 3) := by decide +kernel
theorem dX13_vows_70 : decode cX13_vows 70 = .ok (.ifCond .le 7, 3) := by decide +kernel
theorem dX13_vows_73 : decode cX13_vows 73 = .ok (.iconst 0, 1) := by decide +kernel
theorem dX13_vows_74 : decode cX13_vows 74 = .ok (.goto 4, 3) := by decide +kernel
theorem dX13_vows_77 : decode cX13_vows 77 = .ok (.iconst 1, 1) := by decide +kernel
theorem dX13_vows_78 : decode cX13_vows 78 = .ok (.iadd, 1) := by decide +kernel
theorem dX13_vows_79 : decode cX13_vows 79 = .ok (.putfield 190, 3) := by decide +kernel
theorem dX13_vows_82 : decode cX13_vows 82 = .ok (.aload_n 0, 1) := by decide +kernel
theorem dX13_vows_83 : decode cX13_vows 83 = .ok (.getfield 193, 3) := by decide +kernel
theorem dX13_vows_86 : decode cX13_vows 86 = .ok (.ifCond .ne 16, 3) := by decide +kernel
theorem dX13_vows_89 : decode cX13_vows 89 = .ok (.iload_n 2, 1) := by decide +kernel
theorem dX13_vows_90 : decode cX13_vows 90 = .ok (.iconst 2, 1) := by decide +kernel
theorem dX13_vows_91 : decode cX13_vows 91 = .ok (.if_icmp .ge 11, 3) := by decide +kernel
theorem dX13_vows_94 : decode cX13_vows 94 = .ok (.aload_n 0, 1) := by decide +kernel
theorem dX13_vows_95 : decode cX13_vows 95 = .ok (.iconst 0, 1) := by decide +kernel
theorem dX13_vows_96 : decode cX13_vows 96 = .ok (.invokevirtual 251, 3) := by decide +kernel
theorem dX13_vows_99 : decode cX13_vows 99 = .ok (.goto 4, 3) := by decide +kernel
theorem dX13_vows_102 : decode cX13_vows 102 = .ok (.iconst (-1), 1) := by decide +kernel
theorem dX13_vows_103 : decode cX13_vows 103 = .ok (.istore_n 3, 1) := by decide +kernel
theorem dX13_vows_104 : decode cX13_vows 104 = .ok (.aload_n 0, 1) := by decide +kernel
theorem dX13_vows_105 : decode cX13_vows 105 = .ok (.dup, 1) := by decide +kernel
theorem dX13_vows_106 : decode cX13_vows 106 = .ok (.getfield 190, 3) := by decide +kernel
theorem dX13_vows_109 : decode cX13_vows 109 = .ok (.aload_n 0, 1) := by decide +kernel
theorem dX13_vows_110 : decode cX13_vows 110 = .ok (.getfield 193, 3) := by decide +kernel
theorem dX13_vows_113 : decode cX13_vows 113 = .ok (.ifCond .ne 12, 3) := by decide +kernel
theorem dX13_vows_116 : decode cX13_vows 116 = .ok (.iload_n 2, 1) := by decide +kernel
theorem dX13_vows_117 : decode cX13_vows 117 = .ok (.iconst 2, 1) := by decide +kernel
theorem dX13_vows_118 : decode cX13_vows 118 = .ok (.if_icmp .ge 7, 3) := by decide +kernel
theorem dX13_vows_121 : decode cX13_vows 121 = .ok (.iconst 1, 1) := by decide +kernel
theorem dX13_vows_122 : decode cX13_vows 122 = .ok (.goto 4, 3) := by decide +kernel
theorem dX13_vows_125 : decode cX13_vows 125 = .ok (.iconst 0, 1) := by decide +kernel
theorem dX13_vows_126 : decode cX13_vows 126 = .ok (.iadd, 1) := by decide +kernel
theorem dX13_vows_127 : decode cX13_vows 127 = .ok (.putfield 190, 3) := by decide +kernel
theorem dX13_vows_130 : decode cX13_vows 130 = .ok (.aload_n 0, 1) := by decide +kernel
theorem dX13_vows_131 : decode cX13_vows 131 = .ok (.getfield 193, 3) := by decide +kernel
theorem dX13_vows_134 : decode cX13_vows 134 = .ok (.ifCond .ne 15, 3) := by decide +kernel
theorem dX13_vows_137 : decode cX13_vows 137 = .ok (.iload_n 2, 1) := by decide +kernel
theorem dX13_vows_138 : decode cX13_vows 138 = .ok (.ifCond .ne 11, 3) := by decide +kernel
theorem dX13_vows_141 : decode cX13_vows 141 = .ok (.aload_n 0, 1) := by decide +kernel
theorem dX13_vows_142 : decode cX13_vows 142 = .ok (.iconst 0, 1) := by decide +kernel
theorem dX13_vows_143 : decode cX13_vows 143 = .ok (.invokevirtual 251, 3) := by decide +kernel
theorem dX13_vows_146 : decode cX13_vows 146 = .ok (.goto 4, 3) := by decide +kernel
theorem dX13_vows_149 : decode cX13_vows 149 = .ok (.iconst (-1), 1) := by decide +kernel
theorem dX13_vows_150 : decode cX13_vows 150 = .ok (.istore 4, 2) := by decide +kernel
theorem dX13_vows_152 : decode cX13_vows 152 = .ok (.aload_n 0, 1) := by decide +kernel
theorem dX13_vows_153 : decode cX13_vows 153 = .ok (.getfield 193, 3) := by decide +kernel
theorem dX13_vows_156 : decode cX13_vows 156 = .ok (.ifCond .ne 18, 3) := by decide +kernel
theorem dX13_vows_159 : decode cX13_vows 159 = .ok (.iload_n 2, 1) := by decide +kernel
theorem dX13_vows_160 : decode cX13_vows 160 = .ok (.ifCond .ne 14, 3) := by decide +kernel
theorem dX13_vows_163 : decode cX13_vows 163 = .ok (.iload 4, 2) := by decide +kernel
theorem dX13_vows_165 : decode cX13_vows 165 = .ok (.iload_n 3, 1) := by decide +kernel
theorem dX13_vows_166 : decode cX13_vows 166 = .ok (.if_icmp .ne 8, 3) := by decide +kernel
theorem dX13_vows_169 : decode cX13_vows 169 = .ok (.aload_n 0, 1) := by decide +kernel
theorem dX13_vows_170 : decode cX13_vows 170 = .ok (.iconst 3, 1) := by decide +kernel
theorem dX13_vows_171 : decode cX13_vows 171 = .ok (.invokevirtual 199, 3) := by decide +kernel
theorem dX13_vows_174 : decode cX13_vows 174 = .ok (.aload_n 0, 1) := by decide +kernel
theorem dX13_vows_175 : decode cX13_vows 175 = .ok (.dup, 1) := by decide +kernel
theorem dX13_vows_176 : decode cX13_vows 176 = .ok (.getfield 190, 3) := by decide +kernel
theorem dX13_vows_179 : decode cX13_vows 179 = .ok (.aload_n 0, 1) := by decide +kernel
theorem dX13_vows_180 : decode cX13_vows 180 = .ok (.getfield 193, 3) := by decide +kernel
theorem dX13_vows_183 : decode cX13_vows 183 = .ok (.ifCond .ne 11, 3) := by decide +kernel
theorem dX13_vows_186 : decode cX13_vows 186 = .ok (.iload_n 2, 1) := by decide +kernel
theorem dX13_vows_187 : decode cX13_vows 187 = .ok (.ifCond .ne 7, 3) := by decide +kernel
theorem dX13_vows_190 : decode cX13_vows 190 = .ok (.iconst 1, 1) := by decide +kernel
theorem dX13_vows_191 : decode cX13_vows 191 = .ok (.goto 4, 3) := by decide +kernel
theorem dX13_vows_194 : decode cX13_vows 194 = .ok (.iconst 0, 1) := by decide +kernel
theorem dX13_vows_195 : decode cX13_vows 195 = .ok (.iadd, 1) := by decide +kernel
theorem dX13_vows_196 : decode cX13_vows 196 = .ok (.putfield 190, 3) := by decide +kernel
theorem dX13_vows_199 : decode cX13_vows 199 = .ok (.aload_n 0, 1) := by decide +kernel
theorem dX13_vows_200 : decode cX13_vows 200 = .ok (.getfield 193, 3) := by decide +kernel
theorem dX13_vows_203 : decode cX13_vows 203 = .ok (.ifCond .ne 43, 3) := by decide +kernel
theorem dX13_vows_206 : decode cX13_vows 206 = .ok (.aload_n 0, 1) := by decide +kernel
theorem dX13_vows_207 : decode cX13_vows 207 = .ok (.getfield 114, 3) := by decide +kernel
theorem dX13_vows_210 : decode cX13_vows 210 = .ok (.bipush 80, 2) := by decide +kernel
theorem dX13_vows_212 : decode cX13_vows 212 = .ok (.iconst 3, 1) := by decide +kernel
theorem dX13_vows_213 : decode cX13_vows 213 = .ok (.iload_n 1, 1) := by decide +kernel
theorem dX13_vows_214 : decode cX13_vows 214 = .ok (.imul, 1) := by decide +kernel
theorem dX13_vows_215 : decode cX13_vows 215 = .ok (.iadd, 1) := by decide +kernel
theorem dX13_vows_216 : decode cX13_vows 216 = .ok (.iload_n 2, 1) := by decide +kernel
theorem dX13_vows_217 : decode cX13_vows 217 = .ok (.iastore, 1) := by decide +kernel
theorem dX13_vows_218 : decode cX13_vows 218 = .ok (.aload_n 0, 1) := by decide +kernel
theorem dX13_vows_219 : decode cX13_vows 219 = .ok (.getfield 114, 3) := by decide +kernel
theorem dX13_vows_222 : decode cX13_vows 222 = .ok (.bipush 81, 2) := by decide +kernel
theorem dX13_vows_224 : decode cX13_vows 224 = .ok (.iconst 3, 1) := by decide +kernel
theorem dX13_vows_225 : decode cX13_vows 225 = .ok (.iload_n 1, 1) := by decide +kernel
theorem dX13_vows_226 : decode cX13_vows 226 = .ok (.imul, 1) := by decide +kernel
theorem dX13_vows_227 : decode cX13_vows 227 = .ok (.iadd, 1) := by decide +kernel
theorem dX13_vows_228 : decode cX13_vows 228 = .ok (.iload_n 3, 1) := by decide +kernel
theorem dX13_vows_229 : decode cX13_vows 229 = .ok (.iastore, 1) := by decide +kernel
theorem dX13_vows_230 : decode cX13_vows 230 = .ok (.aload_n 0, 1) := by decide +kernel
theorem dX13_vows_231 : decode cX13_vows 231 = .ok (.getfield 114, 3) := by decide +kernel
theorem dX13_vows_234 : decode cX13_vows 234 = .ok (.bipush 82, 2) := by decide +kernel
theorem dX13_vows_236 : decode cX13_vows 236 = .ok (.iconst 3, 1) := by decide +kernel
theorem dX13_vows_237 : decode cX13_vows 237 = .ok (.iload_n 1, 1) := by decide +kernel
theorem dX13_vows_238 : decode cX13_vows 238 = .ok (.imul, 1) := by decide +kernel
theorem dX13_vows_239 : decode cX13_vows 239 = .ok (.iadd, 1) := by decide +kernel
theorem dX13_vows_240 : decode cX13_vows 240 = .ok (.iload 4, 2) := by decide +kernel
theorem dX13_vows_242 : decode cX13_vows 242 = .ok (.iastore, 1) := by decide +kernel
theorem dX13_vows_243 : decode cX13_vows 243 = .ok (.iinc 1 1, 3) := by decide +kernel
theorem dX13_vows_246 : decode cX13_vows 246 = .ok (.aload_n 0, 1) := by decide +kernel
theorem dX13_vows_247 : decode cX13_vows 247 = .ok (.bipush 59, 2) := by decide +kernel
theorem dX13_vows_249 : decode cX13_vows 249 = .ok (.invokevirtual 244, 3) := by decide +kernel
theorem dX13_vows_252 : decode cX13_vows 252 = .ok (.goto (-241), 3) := by decide +kernel
theorem dX13_vows_255 : decode cX13_vows 255 = .ok (.aload_n 0, 1) := by decide +kernel
theorem dX13_vows_256 : decode cX13_vows 256 = .ok (.getfield 193, 3) := by decide +kernel
theorem dX13_vows_259 : decode cX13_vows 259 = .ok (.ifCond .le 8, 3) := by decide +kernel
theorem dX13_vows_262 : decode cX13_vows 262 = .ok (.aload_n 0, 1) := by decide +kernel
theorem dX13_vows_263 : decode cX13_vows 263 = .ok (.getfield 193, 3) := by decide +kernel
theorem dX13_vows_266 : decode cX13_vows 266 = .ok (.ireturn, 1) := by decide +kernel
theorem dX13_vows_267 : decode cX13_vows 267 = .ok (.aload_n 0, 1) := by decide +kernel
theorem dX13_vows_268 : decode cX13_vows 268 = .ok (.getfield 114, 3) := by decide +kernel
theorem dX13_vows_271 : decode cX13_vows 271 = .ok (.iconst 0, 1) := by decide +kernel
theorem dX13_vows_272 : decode cX13_vows 272 = .ok (.iload_n 1, 1) := by decide +kernel
theorem dX13_vows_273 : decode cX13_vows 273 = .ok (.iastore, 1) := by decide +kernel
theorem dX13_vows_274 : decode cX13_vows 274 = .ok (.iconst 0, 1) := by decide +kernel
theorem dX13_vows_275 : decode cX13_vows 275 = .ok (.istore_n 2, 1) := by decide +kernel
theorem dX13_vows_276 : decode cX13_vows 276 = .ok (.iload_n 2, 1) := by decide +kernel
theorem dX13_vows_277 : decode cX13_vows 277 = .ok (.iconst 3, 1) := by decide +kernel
theorem dX13_vows_278 : decode cX13_vows 278 = .ok (.iload_n 1, 1) := by decide +kernel
theorem dX13_vows_279 : decode cX13_vows 279 = .ok (.imul, 1) := by decide +kernel
theorem dX13_vows_280 : decode cX13_vows 280 = .ok (.if_icmp .ge 26, 3) := by decide +kernel
theorem dX13_vows_283 : decode cX13_vows 283 = .ok (.aload_n 0, 1) := by decide +kernel
theorem dX13_vows_284 : decode cX13_vows 284 = .ok (.getfield 114, 3) := by decide +kernel
theorem dX13_vows_287 : decode cX13_vows 287 = .ok (.iconst 1, 1) := by decide +kernel
theorem dX13_vows_288 : decode cX13_vows 288 = .ok (.iload_n 2, 1) := by decide +kernel
theorem dX13_vows_289 : decode cX13_vows 289 = .ok (.iadd, 1) := by decide +kernel
theorem dX13_vows_290 : decode cX13_vows 290 = .ok (.aload_n 0, 1) := by decide +kernel
theorem dX13_vows_291 : decode cX13_vows 291 = .ok (.getfield 114, 3) := by decide +kernel
theorem dX13_vows_294 : decode cX13_vows 294 = .ok (.bipush 80, 2) := by decide +kernel
theorem dX13_vows_296 : decode cX13_vows 296 = .ok (.iload_n 2, 1) := by decide +kernel
theorem dX13_vows_297 : decode cX13_vows 297 = .ok (.iadd, 1) := by decide +kernel
theorem dX13_vows_298 : decode cX13_vows 298 = .ok (.iaload, 1) := by decide +kernel
theorem dX13_vows_299 : decode cX13_vows 299 = .ok (.iastore, 1) := by decide +kernel
theorem dX13_vows_300 : decode cX13_vows 300 = .ok (.iinc 2 1, 3) := by decide +kernel
theorem dX13_vows_303 : decode cX13_vows 303 = .ok (.goto (-27), 3) := by decide +kernel
theorem dX13_vows_306 : decode cX13_vows 306 = .ok (.iconst 0, 1) := by decide +kernel
theorem dX13_vows_307 : decode cX13_vows 307 = .ok (.ireturn, 1) := by decide +kernel
theorem dX13_will_0 : decode cX13_will 0 = .ok (.aload_n 0, 1) := by decide +kernel
theorem dX13_will_1 : decode cX13_will 1 = .ok (.iconst 0, 1) := by decide +kernel
theorem dX13_will_2 : decode cX13_will 2 = .ok (.putfield 1, 3) := by decide +kernel
theorem dX13_will_5 : decode cX13_will 5 = .ok (.aload_n 0, 1) := by decide +kernel
theorem dX13_will_6 : decode cX13_will 6 = .ok (.invokevirtual 226, 3) := by decide +kernel
theorem dX13_will_9 : decode cX13_will 9 = .ok (.iconst 0, 1) := by decide +kernel
theorem dX13_will_10 : decode cX13_will 10 = .ok (.istore_n 1, 1) := by decide +kernel
theorem dX13_will_11 : decode cX13_will 11 = .ok (.aload_n 0, 1) := by decide +kernel
theorem dX13_will_12 : decode cX13_will 12 = .ok (.getfield 193, 3) := by decide +kernel
theorem dX13_will_15 : decode cX13_will 15 = .ok (.ifCond .ne 81, 3) := by decide +kernel
theorem dX13_will_18 : decode cX13_will 18 = .ok (.aload_n 0, 1) := by decide +kernel
theorem dX13_will_19 : decode cX13_will 19 = .ok (.getfield 24, 3) := by decide +kernel
theorem dX13_will_22 : decode cX13_will 22 = .ok (.aload_n 0, 1) := by decide +kernel
theorem dX13_will_23 : decode cX13_will 23 = .ok (.getfield 190, 3) := by decide +kernel
theorem dX13_will_26 : decode cX13_will 26 = .ok (.iaload, 1) := by decide +kernel
theorem dX13_will_27 : decode cX13_will 27 = .ok (.ifCond .eq 69, 3) := by decide +kernel
theorem dX13_will_30 : decode cX13_will 30 = .ok (.aload_n 0, 1) := by decide +kernel
theorem dX13_will_31 : decode cX13_will 31 = .ok (.bipush 19, 2) := by decide +kernel
theorem dX13_will_33 : decode cX13_will 33 = .ok (.invokevirtual 202, 3) := by decide +kernel
theorem dX13_will_36 : decode cX13_will 36 = .ok (.ifCond .ne 11, 3) := by decide +kernel
theorem dX13_will_39 : decode cX13_will 39 = .ok (.aload_n 0, 1) := by decide +kernel
theorem dX13_will_40 : decode cX13_will 40 = .ok (.iconst 1, 1) := by decide +kernel
theorem dX13_will_41 : decode cX13_will 41 = .ok (.invokevirtual 199, 3) := by decide +kernel
theorem dX13_will_44 : decode cX13_will 44 = .ok (.goto 43, 3) := by decide +kernel
theorem dX13_will_47 : decode cX13_will 47 = .ok (.iload_n 1, 1) := by decide +kernel
theorem dX13_will_48 : decode cX13_will 48 = .ok (.bipush 6, 2) := by decide +kernel
theorem dX13_will_50 : decode cX13_will 50 = .ok (.if_icmp .ne 11, 3) := by decide +kernel
theorem dX13_will_53 : decode cX13_will 53 = .ok (.aload_n 0, 1) := by decide +kernel
theorem dX13_will_54 : decode cX13_will 54 = .ok (.iconst 5, 1) := by decide +kernel
theorem dX13_will_55 : decode cX13_will 55 = .ok (.invokevirtual 199, 3) := by decide +kernel
theorem dX13_will_58 : decode cX13_will 58 = .ok (.goto 29, 3) := by decide +kernel
theorem dX13_will_61 : decode cX13_will 61 = .ok (.aload_n 0, 1) := by decide +kernel
theorem dX13_will_62 : decode cX13_will 62 = .ok (.dup, 1) := by decide +kernel
theorem dX13_will_63 : decode cX13_will 63 = .ok (.getfield 190, 3) := by decide +kernel
theorem dX13_will_66 : decode cX13_will 66 = .ok (.iconst 1, 1) := by decide +kernel
theorem dX13_will_67 : decode cX13_will 67 = .ok (.iadd, 1) := by decide +kernel
theorem dX13_will_68 : decode cX13_will 68 = .ok (.putfield 190, 3) := by decide +kernel
theorem dX13_will_71 : decode cX13_will 71 = .ok (.aload_n 0, 1) := by decide +kernel
theorem dX13_will_72 : decode cX13_will 72 = .ok (.getfield 117, 3) := by decide +kernel
theorem dX13_will_75 : decode cX13_will 75 = .ok (.iload_n 1, 1) := by decide +kernel
theorem dX13_will_76 : decode cX13_will 76 = .ok (.aload_n 0, 1) := by decide +kernel
theorem dX13_will_77 : decode cX13_will 77 = .ok (.iconst 0, 1) := by decide +kernel
theorem dX13_will_78 : decode cX13_will 78 = .ok (.bipush 99, 2) := by decide +kernel
theorem dX13_will_80 : decode cX13_will 80 = .ok (.invokevirtual 211, 3) := by decide +kernel
theorem dX13_will_83 : decode cX13_will 83 = .ok (.iastore, 1) := by decide +kernel
theorem dX13_will_84 : decode cX13_will 84 = .ok (.iinc 1 1, 3) := by decide +kernel
theorem dX13_will_87 : decode cX13_will 87 = .ok (.aload_n 0, 1) := by decide +kernel
theorem dX13_will_88 : decode cX13_will 88 = .ok (.bipush 59, 2) := by decide +kernel
theorem dX13_will_90 : decode cX13_will 90 = .ok (.invokevirtual 244, 3) := by decide +kernel
theorem dX13_will_93 : decode cX13_will 93 = .ok (.goto (-82), 3) := by decide +kernel
theorem dX13_will_96 : decode cX13_will 96 = .ok (.aload_n 0, 1) := by decide +kernel
theorem dX13_will_97 : decode cX13_will 97 = .ok (.getfield 193, 3) := by decide +kernel
theorem dX13_will_100 : decode cX13_will 100 = .ok (.ifCond .le 8, 3) := by decide +kernel
theorem dX13_will_103 : decode cX13_will 103 = .ok (.aload_n 0, 1) := by decide +kernel
theorem dX13_will_104 : decode cX13_will 104 = .ok (.getfield 193, 3) := by decide +kernel
theorem dX13_will_107 : decode cX13_will 107 = .ok (.ireturn, 1) := by decide +kernel
theorem dX13_will_108 : decode cX13_will 108 = .ok (.aload_n 0, 1) := by decide +kernel
theorem dX13_will_109 : decode cX13_will 109 = .ok (.getfield 126, 3) := by decide +kernel
theorem dX13_will_112 : decode cX13_will 112 = .ok (.bipush 19, 2) := by decide +kernel
theorem dX13_will_114 : decode cX13_will 114 = .ok (.iload_n 1, 1) := by decide +kernel
theorem dX13_will_115 : decode cX13_will 115 = .ok (.iastore, 1) := by decide +kernel
theorem dX13_will_116 : decode cX13_will 116 = .ok (.iconst 0, 1) := by decide +kernel
theorem dX13_will_117 : decode cX13_will 117 = .ok (.istore_n 2, 1) := by decide +kernel
theorem dX13_will_118 : decode cX13_will 118 = .ok (.iload_n 2, 1) := by decide +kernel
theorem dX13_will_119 : decode cX13_will 119 = .ok (.iload_n 1, 1) := by decide +kernel
theorem dX13_will_120 : decode cX13_will 120 = .ok (.if_icmp .ge 24, 3) := by decide +kernel
theorem dX13_will_123 : decode cX13_will 123 = .ok (.aload_n 0, 1) := by decide +kernel
theorem dX13_will_124 : decode cX13_will 124 = .ok (.getfield 126, 3) := by decide +kernel
theorem dX13_will_127 : decode cX13_will 127 = .ok (.bipush 20, 2) := by decide +kernel
theorem dX13_will_129 : decode cX13_will 129 = .ok (.iload_n 2, 1) := by decide +kernel
theorem dX13_will_130 : decode cX13_will 130 = .ok (.iadd, 1) := by decide +kernel
theorem dX13_will_131 : decode cX13_will 131 = .ok (.aload_n 0, 1) := by decide +kernel
theorem dX13_will_132 : decode cX13_will 132 = .ok (.getfield 117, 3) := by decide +kernel
theorem dX13_will_135 : decode cX13_will 135 = .ok (.iload_n 2, 1) := by decide +kernel
theorem dX13_will_136 : decode cX13_will 136 = .ok (.iaload, 1) := by decide +kernel
theorem dX13_will_137 : decode cX13_will 137 = .ok (.iastore, 1) := by decide +kernel
theorem dX13_will_138 : decode cX13_will 138 = .ok (.iinc 2 1, 3) := by decide +kernel
theorem dX13_will_141 : decode cX13_will 141 = .ok (.goto (-23), 3) := by decide +kernel
theorem dX13_will_144 : decode cX13_will 144 = .ok (.iconst 0, 1) := by decide +kernel
theorem dX13_will_145 : decode cX13_will 145 = .ok (.ireturn, 1) := by decide +kernel
theorem dX13_emit_0 : decode cX13_emit 0 = .ok (.aload_n 0, 1) := by decide +kernel
theorem dX13_emit_1 : decode cX13_emit 1 = .ok (.getfield 102, 3) := by decide +kernel
theorem dX13_emit_4 : decode cX13_emit 4 = .ok (.sipush 1100, 3) := by decide +kernel
theorem dX13_emit_7 : decode cX13_emit 7 = .ok (.aload_n 0, 1) := by decide +kernel
theorem dX13_emit_8 : decode cX13_emit 8 = .ok (.getfield 229, 3) := by decide +kernel
theorem dX13_emit_11 : decode cX13_emit 11 = .ok (.iadd, 1) := by decide +kernel
theorem dX13_emit_12 : decode cX13_emit 12 = .ok (.iload_n 1, 1) := by decide +kernel
theorem dX13_emit_13 : decode cX13_emit 13 = .ok (.iastore, 1) := by decide +kernel
theorem dX13_emit_14 : decode cX13_emit 14 = .ok (.aload_n 0, 1) := by decide +kernel
theorem dX13_emit_15 : decode cX13_emit 15 = .ok (.getfield 105, 3) := by decide +kernel
theorem dX13_emit_18 : decode cX13_emit 18 = .ok (.sipush 1100, 3) := by decide +kernel
theorem dX13_emit_21 : decode cX13_emit 21 = .ok (.aload_n 0, 1) := by decide +kernel
theorem dX13_emit_22 : decode cX13_emit 22 = .ok (.getfield 229, 3) := by decide +kernel
theorem dX13_emit_25 : decode cX13_emit 25 = .ok (.iadd, 1) := by decide +kernel
theorem dX13_emit_26 : decode cX13_emit 26 = .ok (.iload_n 2, 1) := by decide +kernel
theorem dX13_emit_27 : decode cX13_emit 27 = .ok (.iastore, 1) := by decide +kernel
theorem dX13_emit_28 : decode cX13_emit 28 = .ok (.aload_n 0, 1) := by decide +kernel
theorem dX13_emit_29 : decode cX13_emit 29 = .ok (.dup, 1) := by decide +kernel
theorem dX13_emit_30 : decode cX13_emit 30 = .ok (.getfield 229, 3) := by decide +kernel
theorem dX13_emit_33 : decode cX13_emit 33 = .ok (.iconst 1, 1) := by decide +kernel
theorem dX13_emit_34 : decode cX13_emit 34 = .ok (.iadd, 1) := by decide +kernel
theorem dX13_emit_35 : decode cX13_emit 35 = .ok (.putfield 229, 3) := by decide +kernel
theorem dX13_emit_38 : decode cX13_emit 38 = .ok (.return_, 1) := by decide +kernel
theorem dX13_all_0 : decode cX13_all 0 = .ok (.aload_n 0, 1) := by decide +kernel
theorem dX13_all_1 : decode cX13_all 1 = .ok (.iload_n 1, 1) := by decide +kernel
theorem dX13_all_2 : decode cX13_all 2 = .ok (.invokevirtual 268, 3) := by decide +kernel
theorem dX13_all_5 : decode cX13_all 5 = .ok (.aload_n 0, 1) := by decide +kernel
theorem dX13_all_6 : decode cX13_all 6 = .ok (.bipush 25, 2) := by decide +kernel
theorem dX13_all_8 : decode cX13_all 8 = .ok (.invokevirtual 202, 3) := by decide +kernel
theorem dX13_all_11 : decode cX13_all 11 = .ok (.ifCond .ne 12, 3) := by decide +kernel
theorem dX13_all_14 : decode cX13_all 14 = .ok (.aload_n 0, 1) := by decide +kernel
theorem dX13_all_15 : decode cX13_all 15 = .ok (.bipush 26, 2) := by decide +kernel
theorem dX13_all_17 : decode cX13_all 17 = .ok (.invokevirtual 202, 3) := by decide +kernel
theorem dX13_all_20 : decode cX13_all 20 = .ok (.ifCond .eq 44, 3) := by decide +kernel
theorem dX13_all_23 : decode cX13_all 23 = .ok (.aload_n 0, 1) := by decide +kernel
theorem dX13_all_24 : decode cX13_all 24 = .ok (.bipush 25, 2) := by decide +kernel
theorem dX13_all_26 : decode cX13_all 26 = .ok (.invokevirtual 202, 3) := by decide +kernel
theorem dX13_all_29 : decode cX13_all 29 = .ok (.istore_n 2, 1) := by decide +kernel
theorem dX13_all_30 : decode cX13_all 30 = .ok (.aload_n 0, 1) := by decide +kernel
theorem dX13_all_31 : decode cX13_all 31 = .ok (.dup, 1) := by decide +kernel
theorem dX13_all_32 : decode cX13_all 32 = .ok (.getfield 190, 3) := by decide +kernel
theorem dX13_all_35 : decode cX13_all 35 = .ok (.iconst 1, 1) := by decide +kernel
theorem dX13_all_36 : decode cX13_all 36 = .ok (.iadd, 1) := by decide +kernel
theorem dX13_all_37 : decode cX13_all 37 = .ok (.putfield 190, 3) := by decide +kernel
theorem dX13_all_40 : decode cX13_all 40 = .ok (.aload_n 0, 1) := by decide +kernel
theorem dX13_all_41 : decode cX13_all 41 = .ok (.iload_n 1, 1) := by decide +kernel
theorem dX13_all_42 : decode cX13_all 42 = .ok (.invokevirtual 268, 3) := by decide +kernel
theorem dX13_all_45 : decode cX13_all 45 = .ok (.aload_n 0, 1) := by decide +kernel
theorem dX13_all_46 : decode cX13_all 46 = .ok (.iload_n 2, 1) := by decide +kernel
theorem dX13_all_47 : decode cX13_all 47 = .ok (.ifCond .eq 8, 3) := by decide +kernel
theorem dX13_all_50 : decode cX13_all 50 = .ok (.bipush 9, 2) := by decide +kernel
theorem dX13_all_52 : decode cX13_all 52 = .ok (.goto 5, 3) := by decide +kernel
theorem dX13_all_55 : decode cX13_all 55 = .ok (.bipush 10, 2) := by decide +kernel
theorem dX13_all_57 : decode cX13_all 57 = .ok (.iconst 0, 1) := by decide +kernel
theorem dX13_all_58 : decode cX13_all 58 = .ok (.invokevirtual 264, 3) := by decide +kernel
theorem dX13_all_61 : decode cX13_all 61 = .ok (.goto (-56), 3) := by decide +kernel
theorem dX13_all_64 : decode cX13_all 64 = .ok (.return_, 1) := by decide +kernel
theorem dX13_test_0 : decode cX13_test 0 = .ok (.aload_n 0, 1) := by decide +kernel
theorem dX13_test_1 : decode cX13_test 1 = .ok (.iload_n 1, 1) := by decide +kernel
theorem dX13_test_2 : decode cX13_test 2 = .ok (.invokevirtual 271, 3) := by decide +kernel
theorem dX13_test_5 : decode cX13_test 5 = .ok (.aload_n 0, 1) := by decide +kernel
theorem dX13_test_6 : decode cX13_test 6 = .ok (.bipush 60, 2) := by decide +kernel
theorem dX13_test_8 : decode cX13_test 8 = .ok (.invokevirtual 196, 3) := by decide +kernel
theorem dX13_test_11 : decode cX13_test 11 = .ok (.istore_n 2, 1) := by decide +kernel
theorem dX13_test_12 : decode cX13_test 12 = .ok (.aload_n 0, 1) := by decide +kernel
theorem dX13_test_13 : decode cX13_test 13 = .ok (.bipush 60, 2) := by decide +kernel
theorem dX13_test_15 : decode cX13_test 15 = .ok (.invokevirtual 274, 3) := by decide +kernel
theorem dX13_test_18 : decode cX13_test 18 = .ok (.ifCond .ne 12, 3) := by decide +kernel
theorem dX13_test_21 : decode cX13_test 21 = .ok (.aload_n 0, 1) := by decide +kernel
theorem dX13_test_22 : decode cX13_test 22 = .ok (.bipush 61, 2) := by decide +kernel
theorem dX13_test_24 : decode cX13_test 24 = .ok (.invokevirtual 274, 3) := by decide +kernel
theorem dX13_test_27 : decode cX13_test 27 = .ok (.ifCond .eq 24, 3) := by decide +kernel
theorem dX13_test_30 : decode cX13_test 30 = .ok (.aload_n 0, 1) := by decide +kernel
theorem dX13_test_31 : decode cX13_test 31 = .ok (.iload_n 1, 1) := by decide +kernel
theorem dX13_test_32 : decode cX13_test 32 = .ok (.invokevirtual 271, 3) := by decide +kernel
theorem dX13_test_35 : decode cX13_test 35 = .ok (.aload_n 0, 1) := by decide +kernel
theorem dX13_test_36 : decode cX13_test 36 = .ok (.iload_n 2, 1) := by decide +kernel
theorem dX13_test_37 : decode cX13_test 37 = .ok (.ifCond .eq 8, 3) := by decide +kernel
theorem dX13_test_40 : decode cX13_test 40 = .ok (.bipush 7, 2) := by decide +kernel
theorem dX13_test_42 : decode cX13_test 42 = .ok (.goto 5, 3) := by decide +kernel
theorem dX13_test_45 : decode cX13_test 45 = .ok (.bipush 8, 2) := by decide +kernel
theorem dX13_test_47 : decode cX13_test 47 = .ok (.iconst 0, 1) := by decide +kernel
theorem dX13_test_48 : decode cX13_test 48 = .ok (.invokevirtual 264, 3) := by decide +kernel
theorem dX13_test_51 : decode cX13_test 51 = .ok (.return_, 1) := by decide +kernel
theorem dX13_sums_0 : decode cX13_sums 0 = .ok (.aload_n 0, 1) := by decide +kernel
theorem dX13_sums_1 : decode cX13_sums 1 = .ok (.iload_n 1, 1) := by decide +kernel
theorem dX13_sums_2 : decode cX13_sums 2 = .ok (.invokevirtual 277, 3) := by decide +kernel
theorem dX13_sums_5 : decode cX13_sums 5 = .ok (.aload_n 0, 1) := by decide +kernel
theorem dX13_sums_6 : decode cX13_sums 6 = .ok (.bipush 43, 2) := by decide +kernel
theorem dX13_sums_8 : decode cX13_sums 8 = .ok (.invokevirtual 196, 3) := by decide +kernel
theorem dX13_sums_11 : decode cX13_sums 11 = .ok (.ifCond .ne 12, 3) := by decide +kernel
theorem dX13_sums_14 : decode cX13_sums 14 = .ok (.aload_n 0, 1) := by decide +kernel
theorem dX13_sums_15 : decode cX13_sums 15 = .ok (.bipush 45, 2) := by decide +kernel
theorem dX13_sums_17 : decode cX13_sums 17 = .ok (.invokevirtual 196, 3) := by decide +kernel
theorem dX13_sums_20 : decode cX13_sums 20 = .ok (.ifCond .eq 42, 3) := by decide +kernel
theorem dX13_sums_23 : decode cX13_sums 23 = .ok (.aload_n 0, 1) := by decide +kernel
theorem dX13_sums_24 : decode cX13_sums 24 = .ok (.bipush 43, 2) := by decide +kernel
theorem dX13_sums_26 : decode cX13_sums 26 = .ok (.invokevirtual 196, 3) := by decide +kernel
theorem dX13_sums_29 : decode cX13_sums 29 = .ok (.istore_n 2, 1) := by decide +kernel
theorem dX13_sums_30 : decode cX13_sums 30 = .ok (.aload_n 0, 1) := by decide +kernel
theorem dX13_sums_31 : decode cX13_sums 31 = .ok (.dup, 1) := by decide +kernel
theorem dX13_sums_32 : decode cX13_sums 32 = .ok (.getfield 190, 3) := by decide +kernel
theorem dX13_sums_35 : decode cX13_sums 35 = .ok (.iconst 1, 1) := by decide +kernel
theorem dX13_sums_36 : decode cX13_sums 36 = .ok (.iadd, 1) := by decide +kernel
theorem dX13_sums_37 : decode cX13_sums 37 = .ok (.putfield 190, 3) := by decide +kernel
theorem dX13_sums_40 : decode cX13_sums 40 = .ok (.aload_n 0, 1) := by decide +kernel
theorem dX13_sums_41 : decode cX13_sums 41 = .ok (.iload_n 1, 1) := by decide +kernel
theorem dX13_sums_42 : decode cX13_sums 42 = .ok (.invokevirtual 277, 3) := by decide +kernel
theorem dX13_sums_45 : decode cX13_sums 45 = .ok (.aload_n 0, 1) := by decide +kernel
theorem dX13_sums_46 : decode cX13_sums 46 = .ok (.iload_n 2, 1) := by decide +kernel
theorem dX13_sums_47 : decode cX13_sums 47 = .ok (.ifCond .eq 7, 3) := by decide +kernel
theorem dX13_sums_50 : decode cX13_sums 50 = .ok (.iconst 4, 1) := by decide +kernel
theorem dX13_sums_51 : decode cX13_sums 51 = .ok (.goto 4, 3) := by decide +kernel
theorem dX13_sums_54 : decode cX13_sums 54 = .ok (.iconst 5, 1) := by decide +kernel
theorem dX13_sums_55 : decode cX13_sums 55 = .ok (.iconst 0, 1) := by decide +kernel
theorem dX13_sums_56 : decode cX13_sums 56 = .ok (.invokevirtual 264, 3) := by decide +kernel
theorem dX13_sums_59 : decode cX13_sums 59 = .ok (.goto (-54), 3) := by decide +kernel
theorem dX13_sums_62 : decode cX13_sums 62 = .ok (.return_, 1) := by decide +kernel
theorem dX13_products_0 : decode cX13_products 0 = .ok (.aload_n 0, 1) := by decide +kernel
theorem dX13_products_1 : decode cX13_products 1 = .ok (.iload_n 1, 1) := by decide +kernel
theorem dX13_products_2 : decode cX13_products 2 = .ok (.invokevirtual 280, 3) := by decide +kernel
theorem dX13_products_5 : decode cX13_products 5 = .ok (.aload_n 0, 1) := by decide +kernel
theorem dX13_products_6 : decode cX13_products 6 = .ok (.bipush 42, 2) := by decide +kernel
theorem dX13_products_8 : decode cX13_products 8 = .ok (.invokevirtual 274, 3) := by decide +kernel
theorem dX13_products_11 : decode cX13_products 11 = .ok (.ifCond .eq 18, 3) := by decide +kernel
theorem dX13_products_14 : decode cX13_products 14 = .ok (.aload_n 0, 1) := by decide +kernel
theorem dX13_products_15 : decode cX13_products 15 = .ok (.iload_n 1, 1) := by decide +kernel
theorem dX13_products_16 : decode cX13_products 16 = .ok (.invokevirtual 280, 3) := by decide +kernel
theorem dX13_products_19 : decode cX13_products 19 = .ok (.aload_n 0, 1) := by decide +kernel
theorem dX13_products_20 : decode cX13_products 20 = .ok (.bipush 6, 2) := by decide +kernel
theorem dX13_products_22 : decode cX13_products 22 = .ok (.iconst 0, 1) := by decide +kernel
theorem dX13_products_23 : decode cX13_products 23 = .ok (.invokevirtual 264, 3) := by decide +kernel
theorem dX13_products_26 : decode cX13_products 26 = .ok (.goto (-21), 3) := by decide +kernel
theorem dX13_products_29 : decode cX13_products 29 = .ok (.return_, 1) := by decide +kernel
theorem dX13_takePart_0 : decode cX13_takePart 0 = .ok (.aload_n 0, 1) := by decide +kernel
theorem dX13_takePart_1 : decode cX13_takePart 1 = .ok (.getfield 193, 3) := by decide +kernel
theorem dX13_takePart_4 : decode cX13_takePart 4 = .ok (.ifCond .le 4, 3) := by decide +kernel
theorem dX13_takePart_7 : decode cX13_takePart 7 = .ok (.return_, 1) := by decide +kernel
theorem dX13_takePart_8 : decode cX13_takePart 8 = .ok (.aload_n 0, 1) := by decide +kernel
theorem dX13_takePart_9 : decode cX13_takePart 9 = .ok (.getfield 24, 3) := by decide +kernel
theorem dX13_takePart_12 : decode cX13_takePart 12 = .ok (.aload_n 0, 1) := by decide +kernel
theorem dX13_takePart_13 : decode cX13_takePart 13 = .ok (.getfield 190, 3) := by decide +kernel
theorem dX13_takePart_16 : decode cX13_takePart 16 = .ok (.iaload, 1) := by decide +kernel
theorem dX13_takePart_17 : decode cX13_takePart 17 = .ok (.iconst 2, 1) := by decide +kernel
theorem dX13_takePart_18 : decode cX13_takePart 18 = .ok (.if_icmp .ne 7, 3) := by decide +kernel
theorem dX13_takePart_21 : decode cX13_takePart 21 = .ok (.iconst 1, 1) := by decide +kernel
theorem dX13_takePart_22 : decode cX13_takePart 22 = .ok (.goto 4, 3) := by decide +kernel
theorem dX13_takePart_25 : decode cX13_takePart 25 = .ok (.iconst 0, 1) := by decide +kernel
theorem dX13_takePart_26 : decode cX13_takePart 26 = .ok (.istore_n 2, 1) := by decide +kernel
theorem dX13_takePart_27 : decode cX13_takePart 27 = .ok (.aload_n 0, 1) := by decide +kernel
theorem dX13_takePart_28 : decode cX13_takePart 28 = .ok (.bipush 27, 2) := by decide +kernel
theorem dX13_takePart_30 : decode cX13_takePart 30 = .ok (.aload_n 0, 1) := by decide +kernel
theorem dX13_takePart_31 : decode cX13_takePart 31 = .ok (.getfield 258, 3) := by decide +kernel
theorem dX13_takePart_34 : decode cX13_takePart 34 = .ok (.invokevirtual 215, 3) := by decide +kernel
theorem dX13_takePart_37 : decode cX13_takePart 37 = .ok (.istore_n 3, 1) := by decide +kernel
theorem dX13_takePart_38 : decode cX13_takePart 38 = .ok (.iload_n 3, 1) := by decide +kernel
theorem dX13_takePart_39 : decode cX13_takePart 39 = .ok (.ifCond .ge 33, 3) := by decide +kernel
theorem dX13_takePart_42 : decode cX13_takePart 42 = .ok (.iload_n 2, 1) := by decide +kernel
theorem dX13_takePart_43 : decode cX13_takePart 43 = .ok (.ifCond .ne 29, 3) := by decide +kernel
theorem dX13_takePart_46 : decode cX13_takePart 46 = .ok (.aload_n 0, 1) := by decide +kernel
theorem dX13_takePart_47 : decode cX13_takePart 47 = .ok (.bipush 40, 2) := by decide +kernel
theorem dX13_takePart_49 : decode cX13_takePart 49 = .ok (.invokevirtual 196, 3) := by decide +kernel
theorem dX13_takePart_52 : decode cX13_takePart 52 = .ok (.ifCond .ne 20, 3) := by decide +kernel
theorem dX13_takePart_55 : decode cX13_takePart 55 = .ok (.aload_n 0, 1) := by decide +kernel
theorem dX13_takePart_56 : decode cX13_takePart 56 = .ok (.bipush 24, 2) := by decide +kernel
theorem dX13_takePart_58 : decode cX13_takePart 58 = .ok (.invokevirtual 202, 3) := by decide +kernel
theorem dX13_takePart_61 : decode cX13_takePart 61 = .ok (.ifCond .ne 11, 3) := by decide +kernel
theorem dX13_takePart_64 : decode cX13_takePart 64 = .ok (.aload_n 0, 1) := by decide +kernel
theorem dX13_takePart_65 : decode cX13_takePart 65 = .ok (.iconst 1, 1) := by decide +kernel
theorem dX13_takePart_66 : decode cX13_takePart 66 = .ok (.invokevirtual 199, 3) := by decide +kernel
theorem dX13_takePart_69 : decode cX13_takePart 69 = .ok (.goto 13, 3) := by decide +kernel
theorem dX13_takePart_72 : decode cX13_takePart 72 = .ok (.iload_n 1, 1) := by decide +kernel
theorem dX13_takePart_73 : decode cX13_takePart 73 = .ok (.iconst 5, 1) := by decide +kernel
theorem dX13_takePart_74 : decode cX13_takePart 74 = .ok (.if_icmp .ne 8, 3) := by decide +kernel
theorem dX13_takePart_77 : decode cX13_takePart 77 = .ok (.aload_n 0, 1) := by decide +kernel
theorem dX13_takePart_78 : decode cX13_takePart 78 = .ok (.iconst 5, 1) := by decide +kernel
theorem dX13_takePart_79 : decode cX13_takePart 79 = .ok (.invokevirtual 199, 3) := by decide +kernel
theorem dX13_takePart_82 : decode cX13_takePart 82 = .ok (.aload_n 0, 1) := by decide +kernel
theorem dX13_takePart_83 : decode cX13_takePart 83 = .ok (.getfield 193, 3) := by decide +kernel
theorem dX13_takePart_86 : decode cX13_takePart 86 = .ok (.ifCond .le 4, 3) := by decide +kernel
theorem dX13_takePart_89 : decode cX13_takePart 89 = .ok (.return_, 1) := by decide +kernel
theorem dX13_takePart_90 : decode cX13_takePart 90 = .ok (.aload_n 0, 1) := by decide +kernel
theorem dX13_takePart_91 : decode cX13_takePart 91 = .ok (.bipush 24, 2) := by decide +kernel
theorem dX13_takePart_93 : decode cX13_takePart 93 = .ok (.invokevirtual 205, 3) := by decide +kernel
theorem dX13_takePart_96 : decode cX13_takePart 96 = .ok (.ifCond .eq 19, 3) := by decide +kernel
theorem dX13_takePart_99 : decode cX13_takePart 99 = .ok (.aload_n 0, 1) := by decide +kernel
theorem dX13_takePart_100 : decode cX13_takePart 100 = .ok (.iload_n 1, 1) := by decide +kernel
theorem dX13_takePart_101 : decode cX13_takePart 101 = .ok (.iconst 1, 1) := by decide +kernel
theorem dX13_takePart_102 : decode cX13_takePart 102 = .ok (.iadd, 1) := by decide +kernel
theorem dX13_takePart_103 : decode cX13_takePart 103 = .ok (.invokevirtual 280, 3) := by decide +kernel
theorem dX13_takePart_106 : decode cX13_takePart 106 = .ok (.aload_n 0, 1) := by decide +kernel
theorem dX13_takePart_107 : decode cX13_takePart 107 = .ok (.iconst 3, 1) := by decide +kernel
theorem dX13_takePart_108 : decode cX13_takePart 108 = .ok (.iconst 0, 1) := by decide +kernel
theorem dX13_takePart_109 : decode cX13_takePart 109 = .ok (.invokevirtual 264, 3) := by decide +kernel
theorem dX13_takePart_112 : decode cX13_takePart 112 = .ok (.goto 69, 3) := by decide +kernel
theorem dX13_takePart_115 : decode cX13_takePart 115 = .ok (.aload_n 0, 1) := by decide +kernel
theorem dX13_takePart_116 : decode cX13_takePart 116 = .ok (.bipush 40, 2) := by decide +kernel
theorem dX13_takePart_118 : decode cX13_takePart 118 = .ok (.invokevirtual 274, 3) := by decide +kernel
theorem dX13_takePart_121 : decode cX13_takePart 121 = .ok (.ifCond .eq 19, 3) := by decide +kernel
theorem dX13_takePart_124 : decode cX13_takePart 124 = .ok (.aload_n 0, 1) := by decide +kernel
theorem dX13_takePart_125 : decode cX13_takePart 125 = .ok (.iload_n 1, 1) := by decide +kernel
theorem dX13_takePart_126 : decode cX13_takePart 126 = .ok (.iconst 1, 1) := by decide +kernel
theorem dX13_takePart_127 : decode cX13_takePart 127 = .ok (.iadd, 1) := by decide +kernel
theorem dX13_takePart_128 : decode cX13_takePart 128 = .ok (.invokevirtual 261, 3) := by decide +kernel
theorem dX13_takePart_131 : decode cX13_takePart 131 = .ok (.aload_n 0, 1) := by decide +kernel
theorem dX13_takePart_132 : decode cX13_takePart 132 = .ok (.bipush 41, 2) := by decide +kernel
theorem dX13_takePart_134 : decode cX13_takePart 134 = .ok (.invokevirtual 244, 3) := by decide +kernel
theorem dX13_takePart_137 : decode cX13_takePart 137 = .ok (.goto 44, 3) := by decide +kernel
theorem dX13_takePart_140 : decode cX13_takePart 140 = .ok (.aload_n 0, 1) := by decide +kernel
theorem dX13_takePart_141 : decode cX13_takePart 141 = .ok (.iload_n 2, 1) := by decide +kernel
theorem dX13_takePart_142 : decode cX13_takePart 142 = .ok (.ifCond .eq 7, 3) := by decide +kernel
theorem dX13_takePart_145 : decode cX13_takePart 145 = .ok (.iconst 1, 1) := by decide +kernel
theorem dX13_takePart_146 : decode cX13_takePart 146 = .ok (.goto 4, 3) := by decide +kernel
theorem dX13_takePart_149 : decode cX13_takePart 149 = .ok (.iconst 2, 1) := by decide +kernel
theorem dX13_takePart_150 : decode cX13_takePart 150 = .ok (.iload_n 2, 1) := by decide +kernel
theorem dX13_takePart_151 : decode cX13_takePart 151 = .ok (.ifCond .eq 16, 3) := by decide +kernel
theorem dX13_takePart_154 : decode cX13_takePart 154 = .ok (.aload_n 0, 1) := by decide +kernel
theorem dX13_takePart_155 : decode cX13_takePart 155 = .ok (.getfield 30, 3) := by decide +kernel
theorem dX13_takePart_158 : decode cX13_takePart 158 = .ok (.aload_n 0, 1) := by decide +kernel
theorem dX13_takePart_159 : decode cX13_takePart 159 = .ok (.getfield 190, 3) := by decide +kernel
theorem dX13_takePart_162 : decode cX13_takePart 162 = .ok (.laload, 1) := by decide +kernel
theorem dX13_takePart_163 : decode cX13_takePart 163 = .ok (.l2i, 1) := by decide +kernel
theorem dX13_takePart_164 : decode cX13_takePart 164 = .ok (.goto 4, 3) := by decide +kernel
theorem dX13_takePart_167 : decode cX13_takePart 167 = .ok (.iload_n 3, 1) := by decide +kernel
theorem dX13_takePart_168 : decode cX13_takePart 168 = .ok (.invokevirtual 264, 3) := by decide +kernel
theorem dX13_takePart_171 : decode cX13_takePart 171 = .ok (.aload_n 0, 1) := by decide +kernel
theorem dX13_takePart_172 : decode cX13_takePart 172 = .ok (.dup, 1) := by decide +kernel
theorem dX13_takePart_173 : decode cX13_takePart 173 = .ok (.getfield 190, 3) := by decide +kernel
theorem dX13_takePart_176 : decode cX13_takePart 176 = .ok (.iconst 1, 1) := by decide +kernel
theorem dX13_takePart_177 : decode cX13_takePart 177 = .ok (.iadd, 1) := by decide +kernel
theorem dX13_takePart_178 : decode cX13_takePart 178 = .ok (.putfield 190, 3) := by decide +kernel
theorem dX13_takePart_181 : decode cX13_takePart 181 = .ok (.return_, 1) := by decide +kernel
theorem dX13_worthAt_0 : decode cX13_worthAt 0 = .ok (.iconst 0, 1) := by decide +kernel
theorem dX13_worthAt_1 : decode cX13_worthAt 1 = .ok (.istore_n 2, 1) := by decide +kernel
theorem dX13_worthAt_2 : decode cX13_worthAt 2 = .ok (.iload_n 1, 1) := by decide +kernel
theorem dX13_worthAt_3 : decode cX13_worthAt 3 = .ok (.istore_n 3, 1) := by decide +kernel
theorem dX13_worthAt_4 : decode cX13_worthAt 4 = .ok (.aload_n 0, 1) := by decide +kernel
theorem dX13_worthAt_5 : decode cX13_worthAt 5 = .ok (.getfield 102, 3) := by decide +kernel
theorem dX13_worthAt_8 : decode cX13_worthAt 8 = .ok (.iload_n 3, 1) := by decide +kernel
theorem dX13_worthAt_9 : decode cX13_worthAt 9 = .ok (.iaload, 1) := by decide +kernel
theorem dX13_worthAt_10 : decode cX13_worthAt 10 = .ok (.ifCond .eq 130, 3) := by decide +kernel
theorem dX13_worthAt_13 : decode cX13_worthAt 13 = .ok (.aload_n 0, 1) := by decide +kernel
theorem dX13_worthAt_14 : decode cX13_worthAt 14 = .ok (.getfield 102, 3) := by decide +kernel
theorem dX13_worthAt_17 : decode cX13_worthAt 17 = .ok (.iload_n 3, 1) := by decide +kernel
theorem dX13_worthAt_18 : decode cX13_worthAt 18 = .ok (.iaload, 1) := by decide +kernel
theorem dX13_worthAt_19 : decode cX13_worthAt 19 = .ok (.istore 4, 2) := by decide +kernel
theorem dX13_worthAt_21 : decode cX13_worthAt 21 = .ok (.iload 4, 2) := by decide +kernel
theorem dX13_worthAt_23 : decode cX13_worthAt 23 = .ok (.iconst 1, 1) := by decide +kernel
theorem dX13_worthAt_24 : decode cX13_worthAt 24 = .ok (.if_icmp .eq 9, 3) := by decide +kernel
theorem dX13_worthAt_27 : decode cX13_worthAt 27 = .ok (.iload 4, 2) := by decide +kernel
theorem dX13_worthAt_29 : decode cX13_worthAt 29 = .ok (.iconst 2, 1) := by decide +kernel
theorem dX13_worthAt_30 : decode cX13_worthAt 30 = .ok (.if_icmp .ne 41, 3) := by decide +kernel
theorem dX13_worthAt_33 : decode cX13_worthAt 33 = .ok (.aload_n 0, 1) := by decide +kernel
theorem dX13_worthAt_34 : decode cX13_worthAt 34 = .ok (.getfield 123, 3) := by decide +kernel
theorem dX13_worthAt_37 : decode cX13_worthAt 37 = .ok (.iload_n 2, 1) := by decide +kernel
theorem dX13_worthAt_38 : decode cX13_worthAt 38 = .ok (.iload 4, 2) := by decide +kernel
theorem dX13_worthAt_40 : decode cX13_worthAt 40 = .ok (.iconst 1, 1) := by decide +kernel
theorem dX13_worthAt_41 : decode cX13_worthAt 41 = .ok (.if_icmp .ne 12, 3) := by decide +kernel
theorem dX13_worthAt_44 : decode cX13_worthAt 44 = .ok (.aload_n 0, 1) := by decide +kernel
theorem dX13_worthAt_45 : decode cX13_worthAt 45 = .ok (.getfield 105, 3) := by decide +kernel
theorem dX13_worthAt_48 : decode cX13_worthAt 48 = .ok (.iload_n 3, 1) := by decide +kernel
theorem dX13_worthAt_49 : decode cX13_worthAt 49 = .ok (.iaload, 1) := by decide +kernel
theorem dX13_worthAt_50 : decode cX13_worthAt 50 = .ok (.goto 14, 3) := by decide +kernel
theorem dX13_worthAt_53 : decode cX13_worthAt 53 = .ok (.aload_n 0, 1) := by decide +kernel
theorem dX13_worthAt_54 : decode cX13_worthAt 54 = .ok (.getfield 120, 3) := by decide +kernel
theorem dX13_worthAt_57 : decode cX13_worthAt 57 = .ok (.aload_n 0, 1) := by decide +kernel
theorem dX13_worthAt_58 : decode cX13_worthAt 58 = .ok (.getfield 105, 3) := by decide +kernel
theorem dX13_worthAt_61 : decode cX13_worthAt 61 = .ok (.iload_n 3, 1) := by decide +kernel
theorem dX13_worthAt_62 : decode cX13_worthAt 62 = .ok (.iaload, 1) := by decide +kernel
theorem dX13_worthAt_63 : decode cX13_worthAt 63 = .ok (.iaload, 1) := by decide +kernel
theorem dX13_worthAt_64 : decode cX13_worthAt 64 = .ok (.iastore, 1) := by decide +kernel
theorem dX13_worthAt_65 : decode cX13_worthAt 65 = .ok (.iinc 2 1, 3) := by decide +kernel
theorem dX13_worthAt_68 : decode cX13_worthAt 68 = .ok (.goto 66, 3) := by decide +kernel
theorem dX13_worthAt_71 : decode cX13_worthAt 71 = .ok (.iload 4, 2) := by decide +kernel
theorem dX13_worthAt_73 : decode cX13_worthAt 73 = .ok (.iconst 3, 1) := by decide +kernel
theorem dX13_worthAt_74 : decode cX13_worthAt 74 = .ok (.if_icmp .ne 30, 3) := by decide +kernel
theorem dX13_worthAt_77 : decode cX13_worthAt 77 = .ok (.aload_n 0, 1) := by decide +kernel
theorem dX13_worthAt_78 : decode cX13_worthAt 78 = .ok (.getfield 123, 3) := by decide +kernel
theorem dX13_worthAt_81 : decode cX13_worthAt 81 = .ok (.iload_n 2, 1) := by decide +kernel
theorem dX13_worthAt_82 : decode cX13_worthAt 82 = .ok (.iconst 1, 1) := by decide +kernel
theorem dX13_worthAt_83 : decode cX13_worthAt 83 = .ok (.isub, 1) := by decide +kernel
theorem dX13_worthAt_84 : decode cX13_worthAt 84 = .ok (.aload_n 0, 1) := by decide +kernel
theorem dX13_worthAt_85 : decode cX13_worthAt 85 = .ok (.getfield 123, 3) := by decide +kernel
theorem dX13_worthAt_88 : decode cX13_worthAt 88 = .ok (.iload_n 2, 1) := by decide +kernel
theorem dX13_worthAt_89 : decode cX13_worthAt 89 = .ok (.iconst 1, 1) := by decide +kernel
theorem dX13_worthAt_90 : decode cX13_worthAt 90 = .ok (.isub, 1) := by decide +kernel
theorem dX13_worthAt_91 : decode cX13_worthAt 91 = .ok (.iaload, 1) := by decide +kernel
theorem dX13_worthAt_92 : decode cX13_worthAt 92 = .ok (.ifCond .ne 7, 3) := by decide +kernel
theorem dX13_worthAt_95 : decode cX13_worthAt 95 = .ok (.iconst 1, 1) := by decide +kernel
theorem dX13_worthAt_96 : decode cX13_worthAt 96 = .ok (.goto 4, 3) := by decide +kernel
theorem dX13_worthAt_99 : decode cX13_worthAt 99 = .ok (.iconst 0, 1) := by decide +kernel
theorem dX13_worthAt_100 : decode cX13_worthAt 100 = .ok (.iastore, 1) := by decide +kernel
theorem dX13_worthAt_101 : decode cX13_worthAt 101 = .ok (.goto 33, 3) := by decide +kernel
theorem dX13_worthAt_104 : decode cX13_worthAt 104 = .ok (.iinc 2 (-1), 3) := by decide +kernel
theorem dX13_worthAt_107 : decode cX13_worthAt 107 = .ok (.aload_n 0, 1) := by decide +kernel
theorem dX13_worthAt_108 : decode cX13_worthAt 108 = .ok (.getfield 123, 3) := by decide +kernel
theorem dX13_worthAt_111 : decode cX13_worthAt 111 = .ok (.iload_n 2, 1) := by decide +kernel
theorem dX13_worthAt_112 : decode cX13_worthAt 112 = .ok (.iconst 1, 1) := by decide +kernel
theorem dX13_worthAt_113 : decode cX13_worthAt 113 = .ok (.isub, 1) := by decide +kernel
theorem dX13_worthAt_114 : decode cX13_worthAt 114 = .ok (.iload 4, 2) := by decide +kernel
theorem dX13_worthAt_116 : decode cX13_worthAt 116 = .ok (.aload_n 0, 1) := by decide +kernel
theorem dX13_worthAt_117 : decode cX13_worthAt 117 = .ok (.getfield 123, 3) := by decide +kernel
theorem dX13_worthAt_120 : decode cX13_worthAt 120 = .ok (.iload_n 2, 1) := by decide +kernel
theorem dX13_worthAt_121 : decode cX13_worthAt 121 = .ok (.iconst 1, 1) := by decide +kernel
theorem dX13_worthAt_122 : decode cX13_worthAt 122 = .ok (.isub, 1) := by decide +kernel
theorem dX13_worthAt_123 : decode cX13_worthAt 123 = .ok (.iaload, 1) := by decide +kernel
theorem dX13_worthAt_124 : decode cX13_worthAt 124 = .ok (.aload_n 0, 1) := by decide +kernel
theorem dX13_worthAt_125 : decode cX13_worthAt 125 = .ok (.getfield 123, 3) := by decide +kernel
theorem dX13_worthAt_128 : decode cX13_worthAt 128 = .ok (.iload_n 2, 1) := by decide +kernel
theorem dX13_worthAt_129 : decode cX13_worthAt 129 = .ok (.iaload, 1) := by decide +kernel
theorem dX13_worthAt_130 : decode cX13_worthAt 130 = .ok (.invokestatic 283, 3) := by decide +kernel
theorem dX13_worthAt_133 : decode cX13_worthAt 133 = .ok (.iastore, 1) := by decide +kernel
theorem dX13_worthAt_134 : decode cX13_worthAt 134 = .ok (.iinc 3 1, 3) := by decide +kernel
theorem dX13_worthAt_137 : decode cX13_worthAt 137 = .ok (.goto (-133), 3) := by decide +kernel
theorem dX13_worthAt_140 : decode cX13_worthAt 140 = .ok (.aload_n 0, 1) := by decide +kernel
theorem dX13_worthAt_141 : decode cX13_worthAt 141 = .ok (.getfield 123, 3) := by decide +kernel
theorem dX13_worthAt_144 : decode cX13_worthAt 144 = .ok (.iconst 0, 1) := by decide +kernel
theorem dX13_worthAt_145 : decode cX13_worthAt 145 = .ok (.iaload, 1) := by decide +kernel
theorem dX13_worthAt_146 : decode cX13_worthAt 146 = .ok (.ireturn, 1) := by decide +kernel
theorem dX13_both_0 : decode cX13_both 0 = .ok (.iload_n 0, 1) := by decide +kernel
theorem dX13_both_1 : decode cX13_both 1 = .ok (.tableswitch 87 4 9 #[39, 43, 47, 51, 62, 73], 39) := by decide +kernel
theorem dX13_both_40 : decode cX13_both 40 = .ok (.iload_n 1, 1) := by decide +kernel
theorem dX13_both_41 : decode cX13_both 41 = .ok (.iload_n 2, 1) := by decide +kernel
theorem dX13_both_42 : decode cX13_both 42 = .ok (.iadd, 1) := by decide +kernel
theorem dX13_both_43 : decode cX13_both 43 = .ok (.ireturn, 1) := by decide +kernel
theorem dX13_both_44 : decode cX13_both 44 = .ok (.iload_n 1, 1) := by decide +kernel
theorem dX13_both_45 : decode cX13_both 45 = .ok (.iload_n 2, 1) := by decide +kernel
theorem dX13_both_46 : decode cX13_both 46 = .ok (.isub, 1) := by decide +kernel
theorem dX13_both_47 : decode cX13_both 47 = .ok (.ireturn, 1) := by decide +kernel
theorem dX13_both_48 : decode cX13_both 48 = .ok (.iload_n 1, 1) := by decide +kernel
theorem dX13_both_49 : decode cX13_both 49 = .ok (.iload_n 2, 1) := by decide +kernel
theorem dX13_both_50 : decode cX13_both 50 = .ok (.imul, 1) := by decide +kernel
theorem dX13_both_51 : decode cX13_both 51 = .ok (.ireturn, 1) := by decide +kernel
theorem dX13_both_52 : decode cX13_both 52 = .ok (.iload_n 1, 1) := by decide +kernel
theorem dX13_both_53 : decode cX13_both 53 = .ok (.iload_n 2, 1) := by decide +kernel
theorem dX13_both_54 : decode cX13_both 54 = .ok (.if_icmp .ge 7, 3) := by decide +kernel
theorem dX13_both_57 : decode cX13_both 57 = .ok (.iconst 1, 1) := by decide +kernel
theorem dX13_both_58 : decode cX13_both 58 = .ok (.goto 4, 3) := by decide +kernel
theorem dX13_both_61 : decode cX13_both 61 = .ok (.iconst 0, 1) := by decide +kernel
theorem dX13_both_62 : decode cX13_both 62 = .ok (.ireturn, 1) := by decide +kernel
theorem dX13_both_63 : decode cX13_both 63 = .ok (.iload_n 1, 1) := by decide +kernel
theorem dX13_both_64 : decode cX13_both 64 = .ok (.iload_n 2, 1) := by decide +kernel
theorem dX13_both_65 : decode cX13_both 65 = .ok (.if_icmp .ne 7, 3) := by decide +kernel
theorem dX13_both_68 : decode cX13_both 68 = .ok (.iconst 1, 1) := by decide +kernel
theorem dX13_both_69 : decode cX13_both 69 = .ok (.goto 4, 3) := by decide +kernel
theorem dX13_both_72 : decode cX13_both 72 = .ok (.iconst 0, 1) := by decide +kernel
theorem dX13_both_73 : decode cX13_both 73 = .ok (.ireturn, 1) := by decide +kernel
theorem dX13_both_74 : decode cX13_both 74 = .ok (.iload_n 1, 1) := by decide +kernel
theorem dX13_both_75 : decode cX13_both 75 = .ok (.ifCond .eq 11, 3) := by decide +kernel
theorem dX13_both_78 : decode cX13_both 78 = .ok (.iload_n 2, 1) := by decide +kernel
theorem dX13_both_79 : decode cX13_both 79 = .ok (.ifCond .eq 7, 3) := by decide +kernel
theorem dX13_both_82 : decode cX13_both 82 = .ok (.iconst 1, 1) := by decide +kernel
theorem dX13_both_83 : decode cX13_both 83 = .ok (.goto 4, 3) := by decide +kernel
theorem dX13_both_86 : decode cX13_both 86 = .ok (.iconst 0, 1) := by decide +kernel
theorem dX13_both_87 : decode cX13_both 87 = .ok (.ireturn, 1) := by decide +kernel
theorem dX13_both_88 : decode cX13_both 88 = .ok (.iload_n 1, 1) := by decide +kernel
theorem dX13_both_89 : decode cX13_both 89 = .ok (.ifCond .ne 7, 3) := by decide +kernel
theorem dX13_both_92 : decode cX13_both 92 = .ok (.iload_n 2, 1) := by decide +kernel
theorem dX13_both_93 : decode cX13_both 93 = .ok (.ifCond .eq 7, 3) := by decide +kernel
theorem dX13_both_96 : decode cX13_both 96 = .ok (.iconst 1, 1) := by decide +kernel
theorem dX13_both_97 : decode cX13_both 97 = .ok (.goto 4, 3) := by decide +kernel
theorem dX13_both_100 : decode cX13_both 100 = .ok (.iconst 0, 1) := by decide +kernel
theorem dX13_both_101 : decode cX13_both 101 = .ok (.ireturn, 1) := by decide +kernel
theorem dX13_copies_0 : decode cX13_copies 0 = .ok (.iconst 0, 1) := by decide +kernel
theorem dX13_copies_1 : decode cX13_copies 1 = .ok (.istore 4, 2) := by decide +kernel
theorem dX13_copies_3 : decode cX13_copies 3 = .ok (.iload 4, 2) := by decide +kernel
theorem dX13_copies_5 : decode cX13_copies 5 = .ok (.iload_n 3, 1) := by decide +kernel
theorem dX13_copies_6 : decode cX13_copies 6 = .ok (.if_icmp .ge 27, 3) := by decide +kernel
theorem dX13_copies_9 : decode cX13_copies 9 = .ok (.aload_n 0, 1) := by decide +kernel
theorem dX13_copies_10 : decode cX13_copies 10 = .ok (.getfield 126, 3) := by decide +kernel
theorem dX13_copies_13 : decode cX13_copies 13 = .ok (.iload_n 2, 1) := by decide +kernel
theorem dX13_copies_14 : decode cX13_copies 14 = .ok (.iload 4, 2) := by decide +kernel
theorem dX13_copies_16 : decode cX13_copies 16 = .ok (.iadd, 1) := by decide +kernel
theorem dX13_copies_17 : decode cX13_copies 17 = .ok (.aload_n 0, 1) := by decide +kernel
theorem dX13_copies_18 : decode cX13_copies 18 = .ok (.getfield 126, 3) := by decide +kernel
theorem dX13_copies_21 : decode cX13_copies 21 = .ok (.iload_n 1, 1) := by decide +kernel
theorem dX13_copies_22 : decode cX13_copies 22 = .ok (.iload 4, 2) := by decide +kernel
theorem dX13_copies_24 : decode cX13_copies 24 = .ok (.iadd, 1) := by decide +kernel
theorem dX13_copies_25 : decode cX13_copies 25 = .ok (.iaload, 1) := by decide +kernel
theorem dX13_copies_26 : decode cX13_copies 26 = .ok (.iastore, 1) := by decide +kernel
theorem dX13_copies_27 : decode cX13_copies 27 = .ok (.iinc 4 1, 3) := by decide +kernel
theorem dX13_copies_30 : decode cX13_copies 30 = .ok (.goto (-27), 3) := by decide +kernel
theorem dX13_copies_33 : decode cX13_copies 33 = .ok (.return_, 1) := by decide +kernel
theorem dX13_starts_0 : decode cX13_starts 0 = .ok (.aload_n 0, 1) := by decide +kernel
theorem dX13_starts_1 : decode cX13_starts 1 = .ok (.getfield 126, 3) := by decide +kernel
theorem dX13_starts_4 : decode cX13_starts 4 = .ok (.iload_n 1, 1) := by decide +kernel
theorem dX13_starts_5 : decode cX13_starts 5 = .ok (.iconst 0, 1) := by decide +kernel
theorem dX13_starts_6 : decode cX13_starts 6 = .ok (.iadd, 1) := by decide +kernel
theorem dX13_starts_7 : decode cX13_starts 7 = .ok (.iconst 0, 1) := by decide +kernel
theorem dX13_starts_8 : decode cX13_starts 8 = .ok (.iastore, 1) := by decide +kernel
theorem dX13_starts_9 : decode cX13_starts 9 = .ok (.iconst 0, 1) := by decide +kernel
theorem dX13_starts_10 : decode cX13_starts 10 = .ok (.istore_n 2, 1) := by decide +kernel
theorem dX13_starts_11 : decode cX13_starts 11 = .ok (.iload_n 2, 1) := by decide +kernel
theorem dX13_starts_12 : decode cX13_starts 12 = .ok (.bipush 6, 2) := by decide +kernel
theorem dX13_starts_14 : decode cX13_starts 14 = .ok (.if_icmp .ge 44, 3) := by decide +kernel
theorem dX13_starts_17 : decode cX13_starts 17 = .ok (.aload_n 0, 1) := by decide +kernel
theorem dX13_starts_18 : decode cX13_starts 18 = .ok (.getfield 126, 3) := by decide +kernel
theorem dX13_starts_21 : decode cX13_starts 21 = .ok (.iload_n 1, 1) := by decide +kernel
theorem dX13_starts_22 : decode cX13_starts 22 = .ok (.iconst 1, 1) := by decide +kernel
theorem dX13_starts_23 : decode cX13_starts 23 = .ok (.iadd, 1) := by decide +kernel
theorem dX13_starts_24 : decode cX13_starts 24 = .ok (.iload_n 2, 1) := by decide +kernel
theorem dX13_starts_25 : decode cX13_starts 25 = .ok (.iadd, 1) := by decide +kernel
theorem dX13_starts_26 : decode cX13_starts 26 = .ok (.iconst (-1), 1) := by decide +kernel
theorem dX13_starts_27 : decode cX13_starts 27 = .ok (.iastore, 1) := by decide +kernel
theorem dX13_starts_28 : decode cX13_starts 28 = .ok (.aload_n 0, 1) := by decide +kernel
theorem dX13_starts_29 : decode cX13_starts 29 = .ok (.getfield 126, 3) := by decide +kernel
theorem dX13_starts_32 : decode cX13_starts 32 = .ok (.iload_n 1, 1) := by decide +kernel
theorem dX13_starts_33 : decode cX13_starts 33 = .ok (.bipush 7, 2) := by decide +kernel
theorem dX13_starts_35 : decode cX13_starts 35 = .ok (.iadd, 1) := by decide +kernel
theorem dX13_starts_36 : decode cX13_starts 36 = .ok (.iload_n 2, 1) := by decide +kernel
theorem dX13_starts_37 : decode cX13_starts 37 = .ok (.iadd, 1) := by decide +kernel
theorem dX13_starts_38 : decode cX13_starts 38 = .ok (.iconst 0, 1) := by decide +kernel
theorem dX13_starts_39 : decode cX13_starts 39 = .ok (.iastore, 1) := by decide +kernel
theorem dX13_starts_40 : decode cX13_starts 40 = .ok (.aload_n 0, 1) := by decide +kernel
theorem dX13_starts_41 : decode cX13_starts 41 = .ok (.getfield 126, 3) := by decide +kernel
theorem dX13_starts_44 : decode cX13_starts 44 = .ok (.iload_n 1, 1) := by decide +kernel
theorem dX13_starts_45 : decode cX13_starts 45 = .ok (.bipush 13, 2) := by decide +kernel
theorem dX13_starts_47 : decode cX13_starts 47 = .ok (.iadd, 1) := by decide +kernel
theorem dX13_starts_48 : decode cX13_starts 48 = .ok (.iload_n 2, 1) := by decide +kernel
theorem dX13_starts_49 : decode cX13_starts 49 = .ok (.iadd, 1) := by decide +kernel
theorem dX13_starts_50 : decode cX13_starts 50 = .ok (.iconst 0, 1) := by decide +kernel
theorem dX13_starts_51 : decode cX13_starts 51 = .ok (.iastore, 1) := by decide +kernel
theorem dX13_starts_52 : decode cX13_starts 52 = .ok (.iinc 2 1, 3) := by decide +kernel
theorem dX13_starts_55 : decode cX13_starts 55 = .ok (.goto (-44), 3) := by decide +kernel
theorem dX13_starts_58 : decode cX13_starts 58 = .ok (.return_, 1) := by decide +kernel
theorem dX13_begins_0 : decode cX13_begins 0 = .ok (.aload_n 0, 1) := by decide +kernel
theorem dX13_begins_1 : decode cX13_begins 1 = .ok (.iconst 0, 1) := by decide +kernel
theorem dX13_begins_2 : decode cX13_begins 2 = .ok (.invokevirtual 286, 3) := by decide +kernel
theorem dX13_begins_5 : decode cX13_begins 5 = .ok (.aload_n 0, 1) := by decide +kernel
theorem dX13_begins_6 : decode cX13_begins 6 = .ok (.getfield 126, 3) := by decide +kernel
theorem dX13_begins_9 : decode cX13_begins 9 = .ok (.bipush 19, 2) := by decide +kernel
theorem dX13_begins_11 : decode cX13_begins 11 = .ok (.iconst (-1), 1) := by decide +kernel
theorem dX13_begins_12 : decode cX13_begins 12 = .ok (.iastore, 1) := by decide +kernel
theorem dX13_begins_13 : decode cX13_begins 13 = .ok (.aload_n 0, 1) := by decide +kernel
theorem dX13_begins_14 : decode cX13_begins 14 = .ok (.getfield 126, 3) := by decide +kernel
theorem dX13_begins_17 : decode cX13_begins 17 = .ok (.bipush 26, 2) := by decide +kernel
theorem dX13_begins_19 : decode cX13_begins 19 = .ok (.iconst 0, 1) := by decide +kernel
theorem dX13_begins_20 : decode cX13_begins 20 = .ok (.iastore, 1) := by decide +kernel
theorem dX13_begins_21 : decode cX13_begins 21 = .ok (.aload_n 0, 1) := by decide +kernel
theorem dX13_begins_22 : decode cX13_begins 22 = .ok (.getfield 114, 3) := by decide +kernel
theorem dX13_begins_25 : decode cX13_begins 25 = .ok (.iconst 0, 1) := by decide +kernel
theorem dX13_begins_26 : decode cX13_begins 26 = .ok (.iconst 0, 1) := by decide +kernel
theorem dX13_begins_27 : decode cX13_begins 27 = .ok (.iastore, 1) := by decide +kernel
theorem dX13_begins_28 : decode cX13_begins 28 = .ok (.aload_n 0, 1) := by decide +kernel
theorem dX13_begins_29 : decode cX13_begins 29 = .ok (.iconst 0, 1) := by decide +kernel
theorem dX13_begins_30 : decode cX13_begins 30 = .ok (.putfield 289, 3) := by decide +kernel
theorem dX13_begins_33 : decode cX13_begins 33 = .ok (.iconst 0, 1) := by decide +kernel
theorem dX13_begins_34 : decode cX13_begins 34 = .ok (.istore_n 1, 1) := by decide +kernel
theorem dX13_begins_35 : decode cX13_begins 35 = .ok (.iload_n 1, 1) := by decide +kernel
theorem dX13_begins_36 : decode cX13_begins 36 = .ok (.iconst 4, 1) := by decide +kernel
theorem dX13_begins_37 : decode cX13_begins 37 = .ok (.if_icmp .ge 16, 3) := by decide +kernel
theorem dX13_begins_40 : decode cX13_begins 40 = .ok (.aload_n 0, 1) := by decide +kernel
theorem dX13_begins_41 : decode cX13_begins 41 = .ok (.getfield 129, 3) := by decide +kernel
theorem dX13_begins_44 : decode cX13_begins 44 = .ok (.iload_n 1, 1) := by decide +kernel
theorem dX13_begins_45 : decode cX13_begins 45 = .ok (.iconst 0, 1) := by decide +kernel
theorem dX13_begins_46 : decode cX13_begins 46 = .ok (.bastore, 1) := by decide +kernel
theorem dX13_begins_47 : decode cX13_begins 47 = .ok (.iinc 1 1, 3) := by decide +kernel
theorem dX13_begins_50 : decode cX13_begins 50 = .ok (.goto (-15), 3) := by decide +kernel
theorem dX13_begins_53 : decode cX13_begins 53 = .ok (.return_, 1) := by decide +kernel
theorem dX13_keeps_0 : decode cX13_keeps 0 = .ok (.aload_n 0, 1) := by decide +kernel
theorem dX13_keeps_1 : decode cX13_keeps 1 = .ok (.getfield 289, 3) := by decide +kernel
theorem dX13_keeps_4 : decode cX13_keeps 4 = .ok (.bipush 16, 2) := by decide +kernel
theorem dX13_keeps_6 : decode cX13_keeps 6 = .ok (.if_icmp .ne 47, 3) := by decide +kernel
theorem dX13_keeps_9 : decode cX13_keeps 9 = .ok (.iconst 1, 1) := by decide +kernel
theorem dX13_keeps_10 : decode cX13_keeps 10 = .ok (.istore_n 1, 1) := by decide +kernel
theorem dX13_keeps_11 : decode cX13_keeps 11 = .ok (.iload_n 1, 1) := by decide +kernel
theorem dX13_keeps_12 : decode cX13_keeps 12 = .ok (.bipush 16, 2) := by decide +kernel
theorem dX13_keeps_14 : decode cX13_keeps 14 = .ok (.if_icmp .ge 29, 3) := by decide +kernel
theorem dX13_keeps_17 : decode cX13_keeps 17 = .ok (.aload_n 0, 1) := by decide +kernel
theorem dX13_keeps_18 : decode cX13_keeps 18 = .ok (.bipush 60, 2) := by decide +kernel
theorem dX13_keeps_20 : decode cX13_keeps 20 = .ok (.iconst 5, 1) := by decide +kernel
theorem dX13_keeps_21 : decode cX13_keeps 21 = .ok (.iload_n 1, 1) := by decide +kernel
theorem dX13_keeps_22 : decode cX13_keeps 22 = .ok (.iadd, 1) := by decide +kernel
theorem dX13_keeps_23 : decode cX13_keeps 23 = .ok (.imul, 1) := by decide +kernel
theorem dX13_keeps_24 : decode cX13_keeps 24 = .ok (.bipush 60, 2) := by decide +kernel
theorem dX13_keeps_26 : decode cX13_keeps 26 = .ok (.iconst 5, 1) := by decide +kernel
theorem dX13_keeps_27 : decode cX13_keeps 27 = .ok (.iload_n 1, 1) := by decide +kernel
theorem dX13_keeps_28 : decode cX13_keeps 28 = .ok (.iadd, 1) := by decide +kernel
theorem dX13_keeps_29 : decode cX13_keeps 29 = .ok (.iconst 1, 1) := by decide +kernel
theorem dX13_keeps_30 : decode cX13_keeps 30 = .ok (.isub, 1) := by decide +kernel
theorem dX13_keeps_31 : decode cX13_keeps 31 = .ok (.imul, 1) := by decide +kernel
theorem dX13_keeps_32 : decode cX13_keeps 32 = .ok (.bipush 19, 2) := by decide +kernel
theorem dX13_keeps_34 : decode cX13_keeps 34 = .ok (.invokevirtual 292, 3) := by decide +kernel
theorem dX13_keeps_37 : decode cX13_keeps 37 = .ok (.iinc 1 1, 3) := by decide +kernel
theorem dX13_keeps_40 : decode cX13_keeps 40 = .ok (.goto (-29), 3) := by decide +kernel
theorem dX13_keeps_43 : decode cX13_keeps 43 = .ok (.aload_n 0, 1) := by decide +kernel
theorem dX13_keeps_44 : decode cX13_keeps 44 = .ok (.dup, 1) := by decide +kernel
theorem dX13_keeps_45 : decode cX13_keeps 45 = .ok (.getfield 289, 3) := by decide +kernel
