/-! 99jb: the law, its calls 4 to 7 (laid by wip/whole/p99j.py) -/
theorem dL_298 : decode code 298 = .ok (.aload_n 1, 1) := by decide +kernel
theorem dL_299 : decode code 299 = .ok (.aload_n 0, 1) := by decide +kernel
theorem dL_300 : decode code 300 = .ok (.iload_n 3, 1) := by decide +kernel
theorem dL_301 : decode code 301 = .ok (.iconst 1, 1) := by decide +kernel
theorem dL_302 : decode code 302 = .ok (.iadd, 1) := by decide +kernel
theorem dL_303 : decode code 303 = .ok (.iaload, 1) := by decide +kernel
theorem dL_304 : decode code 304 = .ok (.aload_n 0, 1) := by decide +kernel
theorem dL_305 : decode code 305 = .ok (.iload_n 3, 1) := by decide +kernel
theorem dL_306 : decode code 306 = .ok (.iconst 2, 1) := by decide +kernel
theorem dL_307 : decode code 307 = .ok (.iadd, 1) := by decide +kernel
theorem dL_308 : decode code 308 = .ok (.iaload, 1) := by decide +kernel
theorem dL_309 : decode code 309 = .ok (.aload_n 0, 1) := by decide +kernel
theorem dL_310 : decode code 310 = .ok (.iload_n 3, 1) := by decide +kernel
theorem dL_311 : decode code 311 = .ok (.iconst 3, 1) := by decide +kernel
theorem dL_312 : decode code 312 = .ok (.iadd, 1) := by decide +kernel
theorem dL_313 : decode code 313 = .ok (.iaload, 1) := by decide +kernel
theorem dL_314 : decode code 314 = .ok (.aload_n 0, 1) := by decide +kernel
theorem dL_315 : decode code 315 = .ok (.iload_n 3, 1) := by decide +kernel
theorem dL_316 : decode code 316 = .ok (.iconst 4, 1) := by decide +kernel
theorem dL_317 : decode code 317 = .ok (.iadd, 1) := by decide +kernel
theorem dL_318 : decode code 318 = .ok (.iaload, 1) := by decide +kernel
theorem dL_319 : decode code 319 = .ok (.aload_n 0, 1) := by decide +kernel
theorem dL_320 : decode code 320 = .ok (.iload_n 3, 1) := by decide +kernel
theorem dL_321 : decode code 321 = .ok (.iconst 5, 1) := by decide +kernel
theorem dL_322 : decode code 322 = .ok (.iadd, 1) := by decide +kernel
theorem dL_323 : decode code 323 = .ok (.iaload, 1) := by decide +kernel
theorem dL_324 : decode code 324 = .ok (.aload_n 0, 1) := by decide +kernel
theorem dL_325 : decode code 325 = .ok (.iload_n 3, 1) := by decide +kernel
theorem dL_326 : decode code 326 = .ok (.bipush 6, 2) := by decide +kernel
theorem dL_328 : decode code 328 = .ok (.iadd, 1) := by decide +kernel
theorem dL_329 : decode code 329 = .ok (.iaload, 1) := by decide +kernel
theorem dL_330 : decode code 330 = .ok (.aload_n 0, 1) := by decide +kernel
theorem dL_331 : decode code 331 = .ok (.iload_n 3, 1) := by decide +kernel
theorem dL_332 : decode code 332 = .ok (.bipush 7, 2) := by decide +kernel
theorem dL_334 : decode code 334 = .ok (.iadd, 1) := by decide +kernel
theorem dL_335 : decode code 335 = .ok (.iaload, 1) := by decide +kernel
theorem dL_336 : decode code 336 = .ok (.invokevirtual 33, 3) := by decide +kernel
theorem dL_339 : decode code 339 = .ok (.aload_n 2, 1) := by decide +kernel
theorem dL_340 : decode code 340 = .ok (.aload_n 0, 1) := by decide +kernel
theorem dL_341 : decode code 341 = .ok (.iload_n 3, 1) := by decide +kernel
theorem dL_342 : decode code 342 = .ok (.iconst 1, 1) := by decide +kernel
theorem dL_343 : decode code 343 = .ok (.iadd, 1) := by decide +kernel
theorem dL_344 : decode code 344 = .ok (.iaload, 1) := by decide +kernel
theorem dL_345 : decode code 345 = .ok (.aload_n 0, 1) := by decide +kernel
theorem dL_346 : decode code 346 = .ok (.iload_n 3, 1) := by decide +kernel
theorem dL_347 : decode code 347 = .ok (.iconst 2, 1) := by decide +kernel
theorem dL_348 : decode code 348 = .ok (.iadd, 1) := by decide +kernel
theorem dL_349 : decode code 349 = .ok (.iaload, 1) := by decide +kernel
theorem dL_350 : decode code 350 = .ok (.aload_n 0, 1) := by decide +kernel
theorem dL_351 : decode code 351 = .ok (.iload_n 3, 1) := by decide +kernel
theorem dL_352 : decode code 352 = .ok (.iconst 3, 1) := by decide +kernel
theorem dL_353 : decode code 353 = .ok (.iadd, 1) := by decide +kernel
theorem dL_354 : decode code 354 = .ok (.iaload, 1) := by decide +kernel
theorem dL_355 : decode code 355 = .ok (.aload_n 0, 1) := by decide +kernel
theorem dL_356 : decode code 356 = .ok (.iload_n 3, 1) := by decide +kernel
theorem dL_357 : decode code 357 = .ok (.iconst 4, 1) := by decide +kernel
theorem dL_358 : decode code 358 = .ok (.iadd, 1) := by decide +kernel
theorem dL_359 : decode code 359 = .ok (.iaload, 1) := by decide +kernel
theorem dL_360 : decode code 360 = .ok (.aload_n 0, 1) := by decide +kernel
theorem dL_361 : decode code 361 = .ok (.iload_n 3, 1) := by decide +kernel
theorem dL_362 : decode code 362 = .ok (.iconst 5, 1) := by decide +kernel
theorem dL_363 : decode code 363 = .ok (.iadd, 1) := by decide +kernel
theorem dL_364 : decode code 364 = .ok (.iaload, 1) := by decide +kernel
theorem dL_365 : decode code 365 = .ok (.aload_n 0, 1) := by decide +kernel
theorem dL_366 : decode code 366 = .ok (.iload_n 3, 1) := by decide +kernel
theorem dL_367 : decode code 367 = .ok (.bipush 6, 2) := by decide +kernel
theorem dL_369 : decode code 369 = .ok (.iadd, 1) := by decide +kernel
theorem dL_370 : decode code 370 = .ok (.iaload, 1) := by decide +kernel
theorem dL_371 : decode code 371 = .ok (.aload_n 0, 1) := by decide +kernel
theorem dL_372 : decode code 372 = .ok (.iload_n 3, 1) := by decide +kernel
theorem dL_373 : decode code 373 = .ok (.bipush 7, 2) := by decide +kernel
theorem dL_375 : decode code 375 = .ok (.iadd, 1) := by decide +kernel
theorem dL_376 : decode code 376 = .ok (.iaload, 1) := by decide +kernel
theorem dL_377 : decode code 377 = .ok (.invokevirtual 37, 3) := by decide +kernel
theorem dL_380 : decode code 380 = .ok (.if_icmp .eq 1105, 3) := by decide +kernel
theorem lz_c4 {b L : Nat} {xs : Nat → Int32} {i : Int32} {h : ai_H} (hi : ∀ v : Nat, v < 8 → vp_in (i + nI v) L) (J : JI h) (hr1 : h.1 + 11 ≤ room_1.cells) (hr2 : h.2.1 + 3917 ≤ room_1.slots) (kx : ∀ h2, JI h2 → h2.1 ≤ h.1 + 11 → h2.2.1 ≤ h.2.1 + 3917 → lz_R b L xs 1485 [.retAddr 31, .ref 0, .ref 307, .int i] [] h2) : lz_R b L xs 298 [.retAddr 31, .ref 0, .ref 307, .int i] [] h := by
  obtain ⟨r, h1, h2, ⟨v, rfl⟩, m1, m2, ⟨fs1, e1⟩, J2, s1, s2⟩ := js_record (xs (i + nI 1).toNatClampNeg) (xs (i + nI 2).toNatClampNeg) (xs (i + nI 3).toNatClampNeg) (xs (i + nI 4).toNatClampNeg) (xs (i + nI 5).toNatClampNeg) (xs (i + nI 6).toNatClampNeg) (xs (i + nI 7).toNatClampNeg) h J
  have a1 := m1.1
  have a2 := m2.1
  obtain ⟨q0, fs0, e0⟩ := JI_cells J
  refine lz_ald (q := 0) dL_298 rfl ?_
  refine lz_arg (v := nI 1) dL_299 dL_300 dL_301 dL_302 dL_303 (by decide) (hi 1 (by decide)) ?_
  refine lz_arg (v := nI 2) dL_304 dL_305 dL_306 dL_307 dL_308 (by decide) (hi 2 (by decide)) ?_
  refine lz_arg (v := nI 3) dL_309 dL_310 dL_311 dL_312 dL_313 (by decide) (hi 3 (by decide)) ?_
  refine lz_arg (v := nI 4) dL_314 dL_315 dL_316 dL_317 dL_318 (by decide) (hi 4 (by decide)) ?_
  refine lz_arg (v := nI 5) dL_319 dL_320 dL_321 dL_322 dL_323 (by decide) (hi 5 (by decide)) ?_
  refine lz_arg2 (v := nI 6) dL_324 dL_325 dL_326 dL_328 dL_329 (by decide) (hi 6 (by decide)) ?_
  refine lz_arg2 (v := nI 7) dL_330 dL_331 dL_332 dL_334 dL_335 (by decide) (hi 7 (by decide)) ?_
  refine lz_call (as := [.int (xs (i + nI 1).toNatClampNeg), .int (xs (i + nI 2).toNatClampNeg), .int (xs (i + nI 3).toNatClampNeg), .int (xs (i + nI 4).toNatClampNeg), .int (xs (i + nI 5).toNatClampNeg), .int (xs (i + nI 6).toNatClampNeg), .int (xs (i + nI 7).toNatClampNeg)]) (st := []) (ci := 11) (q := 0) dL_336 mk_X11_record mlL_33 in_X11_record se_X11_record rfl (by omega) e0 rfl rfl (Nat.le_of_ble_eq_true rfl) m1 (by omega) (by omega) ?_
  show lz_R b L xs 339 [.retAddr 31, .ref 0, .ref 307, .int i] [.int v] h1
  refine lz_ald (q := 307) dL_339 rfl ?_
  refine lz_arg (v := nI 1) dL_340 dL_341 dL_342 dL_343 dL_344 (by decide) (hi 1 (by decide)) ?_
  refine lz_arg (v := nI 2) dL_345 dL_346 dL_347 dL_348 dL_349 (by decide) (hi 2 (by decide)) ?_
  refine lz_arg (v := nI 3) dL_350 dL_351 dL_352 dL_353 dL_354 (by decide) (hi 3 (by decide)) ?_
  refine lz_arg (v := nI 4) dL_355 dL_356 dL_357 dL_358 dL_359 (by decide) (hi 4 (by decide)) ?_
  refine lz_arg (v := nI 5) dL_360 dL_361 dL_362 dL_363 dL_364 (by decide) (hi 5 (by decide)) ?_
  refine lz_arg2 (v := nI 6) dL_365 dL_366 dL_367 dL_369 dL_370 (by decide) (hi 6 (by decide)) ?_
  refine lz_arg2 (v := nI 7) dL_371 dL_372 dL_373 dL_375 dL_376 (by decide) (hi 7 (by decide)) ?_
  refine lz_call (as := [.int (xs (i + nI 1).toNatClampNeg), .int (xs (i + nI 2).toNatClampNeg), .int (xs (i + nI 3).toNatClampNeg), .int (xs (i + nI 4).toNatClampNeg), .int (xs (i + nI 5).toNatClampNeg), .int (xs (i + nI 6).toNatClampNeg), .int (xs (i + nI 7).toNatClampNeg)]) (st := [.int v]) (ci := 12) (q := 307) dL_377 mk_X12_record mlL_37 in_X12_record se_X12_record rfl (by omega) e1 rfl rfl (Nat.le_of_ble_eq_true rfl) m2 (by omega) (by omega) ?_
  show lz_R b L xs 380 [.retAddr 31, .ref 0, .ref 307, .int i] [.int v, .int v] h2
  refine lz_eqI (tgt := 1485) dL_380 (by decide) ?_
  exact kx h2 J2 s1 s2
theorem dL_385 : decode code 385 = .ok (.aload_n 1, 1) := by decide +kernel
theorem dL_386 : decode code 386 = .ok (.aload_n 0, 1) := by decide +kernel
theorem dL_387 : decode code 387 = .ok (.iload_n 3, 1) := by decide +kernel
theorem dL_388 : decode code 388 = .ok (.iconst 1, 1) := by decide +kernel
theorem dL_389 : decode code 389 = .ok (.iadd, 1) := by decide +kernel
theorem dL_390 : decode code 390 = .ok (.iaload, 1) := by decide +kernel
theorem dL_391 : decode code 391 = .ok (.invokevirtual 38, 3) := by decide +kernel
theorem dL_394 : decode code 394 = .ok (.aload_n 2, 1) := by decide +kernel
theorem dL_395 : decode code 395 = .ok (.aload_n 0, 1) := by decide +kernel
theorem dL_396 : decode code 396 = .ok (.iload_n 3, 1) := by decide +kernel
theorem dL_397 : decode code 397 = .ok (.iconst 1, 1) := by decide +kernel
theorem dL_398 : decode code 398 = .ok (.iadd, 1) := by decide +kernel
theorem dL_399 : decode code 399 = .ok (.iaload, 1) := by decide +kernel
theorem dL_400 : decode code 400 = .ok (.invokevirtual 41, 3) := by decide +kernel
theorem dL_403 : decode code 403 = .ok (.if_icmp .eq 1082, 3) := by decide +kernel
theorem lz_c5 {b L : Nat} {xs : Nat → Int32} {i : Int32} {h : ai_H} (hi : ∀ v : Nat, v < 8 → vp_in (i + nI v) L) (J : JI h) (hr1 : h.1 + 11 ≤ room_1.cells) (hr2 : h.2.1 + 3917 ≤ room_1.slots) (kx : ∀ h2, JI h2 → h2.1 ≤ h.1 + 11 → h2.2.1 ≤ h.2.1 + 3917 → lz_R b L xs 1485 [.retAddr 31, .ref 0, .ref 307, .int i] [] h2) : lz_R b L xs 385 [.retAddr 31, .ref 0, .ref 307, .int i] [] h := by
  obtain ⟨r, h1, h2, ⟨v, rfl⟩, m1, m2, ⟨fs1, e1⟩, J2, s1, s2⟩ := js_strike (xs (i + nI 1).toNatClampNeg) h J
  have a1 := m1.1
  have a2 := m2.1
  obtain ⟨q0, fs0, e0⟩ := JI_cells J
  refine lz_ald (q := 0) dL_385 rfl ?_
  refine lz_arg (v := nI 1) dL_386 dL_387 dL_388 dL_389 dL_390 (by decide) (hi 1 (by decide)) ?_
  refine lz_call (as := [.int (xs (i + nI 1).toNatClampNeg)]) (st := []) (ci := 11) (q := 0) dL_391 mk_X11_strike mlL_38 in_X11_strike se_X11_strike rfl (by omega) e0 rfl rfl (Nat.le_of_ble_eq_true rfl) m1 (by omega) (by omega) ?_
  show lz_R b L xs 394 [.retAddr 31, .ref 0, .ref 307, .int i] [.int v] h1
  refine lz_ald (q := 307) dL_394 rfl ?_
  refine lz_arg (v := nI 1) dL_395 dL_396 dL_397 dL_398 dL_399 (by decide) (hi 1 (by decide)) ?_
  refine lz_call (as := [.int (xs (i + nI 1).toNatClampNeg)]) (st := [.int v]) (ci := 12) (q := 307) dL_400 mk_X12_strike mlL_41 in_X12_strike se_X12_strike rfl (by omega) e1 rfl rfl (Nat.le_of_ble_eq_true rfl) m2 (by omega) (by omega) ?_
  show lz_R b L xs 403 [.retAddr 31, .ref 0, .ref 307, .int i] [.int v, .int v] h2
  refine lz_eqI (tgt := 1485) dL_403 (by decide) ?_
  exact kx h2 J2 s1 s2
theorem dL_408 : decode code 408 = .ok (.aload_n 1, 1) := by decide +kernel
theorem dL_409 : decode code 409 = .ok (.aload_n 0, 1) := by decide +kernel
theorem dL_410 : decode code 410 = .ok (.iload_n 3, 1) := by decide +kernel
theorem dL_411 : decode code 411 = .ok (.iconst 1, 1) := by decide +kernel
theorem dL_412 : decode code 412 = .ok (.iadd, 1) := by decide +kernel
theorem dL_413 : decode code 413 = .ok (.iaload, 1) := by decide +kernel
theorem dL_414 : decode code 414 = .ok (.aload_n 0, 1) := by decide +kernel
theorem dL_415 : decode code 415 = .ok (.iload_n 3, 1) := by decide +kernel
theorem dL_416 : decode code 416 = .ok (.iconst 2, 1) := by decide +kernel
theorem dL_417 : decode code 417 = .ok (.iadd, 1) := by decide +kernel
theorem dL_418 : decode code 418 = .ok (.iaload, 1) := by decide +kernel
theorem dL_419 : decode code 419 = .ok (.aload_n 0, 1) := by decide +kernel
theorem dL_420 : decode code 420 = .ok (.iload_n 3, 1) := by decide +kernel
theorem dL_421 : decode code 421 = .ok (.iconst 3, 1) := by decide +kernel
theorem dL_422 : decode code 422 = .ok (.iadd, 1) := by decide +kernel
theorem dL_423 : decode code 423 = .ok (.iaload, 1) := by decide +kernel
theorem dL_424 : decode code 424 = .ok (.aload_n 0, 1) := by decide +kernel
theorem dL_425 : decode code 425 = .ok (.iload_n 3, 1) := by decide +kernel
theorem dL_426 : decode code 426 = .ok (.iconst 4, 1) := by decide +kernel
theorem dL_427 : decode code 427 = .ok (.iadd, 1) := by decide +kernel
theorem dL_428 : decode code 428 = .ok (.iaload, 1) := by decide +kernel
theorem dL_429 : decode code 429 = .ok (.aload_n 0, 1) := by decide +kernel
theorem dL_430 : decode code 430 = .ok (.iload_n 3, 1) := by decide +kernel
theorem dL_431 : decode code 431 = .ok (.iconst 5, 1) := by decide +kernel
theorem dL_432 : decode code 432 = .ok (.iadd, 1) := by decide +kernel
theorem dL_433 : decode code 433 = .ok (.iaload, 1) := by decide +kernel
theorem dL_434 : decode code 434 = .ok (.aload_n 0, 1) := by decide +kernel
theorem dL_435 : decode code 435 = .ok (.iload_n 3, 1) := by decide +kernel
theorem dL_436 : decode code 436 = .ok (.bipush 6, 2) := by decide +kernel
theorem dL_438 : decode code 438 = .ok (.iadd, 1) := by decide +kernel
theorem dL_439 : decode code 439 = .ok (.iaload, 1) := by decide +kernel
theorem dL_440 : decode code 440 = .ok (.invokevirtual 42, 3) := by decide +kernel
theorem dL_443 : decode code 443 = .ok (.aload_n 2, 1) := by decide +kernel
theorem dL_444 : decode code 444 = .ok (.aload_n 0, 1) := by decide +kernel
theorem dL_445 : decode code 445 = .ok (.iload_n 3, 1) := by decide +kernel
theorem dL_446 : decode code 446 = .ok (.iconst 1, 1) := by decide +kernel
theorem dL_447 : decode code 447 = .ok (.iadd, 1) := by decide +kernel
theorem dL_448 : decode code 448 = .ok (.iaload, 1) := by decide +kernel
theorem dL_449 : decode code 449 = .ok (.aload_n 0, 1) := by decide +kernel
theorem dL_450 : decode code 450 = .ok (.iload_n 3, 1) := by decide +kernel
theorem dL_451 : decode code 451 = .ok (.iconst 2, 1) := by decide +kernel
theorem dL_452 : decode code 452 = .ok (.iadd, 1) := by decide +kernel
theorem dL_453 : decode code 453 = .ok (.iaload, 1) := by decide +kernel
theorem dL_454 : decode code 454 = .ok (.aload_n 0, 1) := by decide +kernel
theorem dL_455 : decode code 455 = .ok (.iload_n 3, 1) := by decide +kernel
theorem dL_456 : decode code 456 = .ok (.iconst 3, 1) := by decide +kernel
theorem dL_457 : decode code 457 = .ok (.iadd, 1) := by decide +kernel
theorem dL_458 : decode code 458 = .ok (.iaload, 1) := by decide +kernel
theorem dL_459 : decode code 459 = .ok (.aload_n 0, 1) := by decide +kernel
theorem dL_460 : decode code 460 = .ok (.iload_n 3, 1) := by decide +kernel
theorem dL_461 : decode code 461 = .ok (.iconst 4, 1) := by decide +kernel
theorem dL_462 : decode code 462 = .ok (.iadd, 1) := by decide +kernel
theorem dL_463 : decode code 463 = .ok (.iaload, 1) := by decide +kernel
theorem dL_464 : decode code 464 = .ok (.aload_n 0, 1) := by decide +kernel
theorem dL_465 : decode code 465 = .ok (.iload_n 3, 1) := by decide +kernel
theorem dL_466 : decode code 466 = .ok (.iconst 5, 1) := by decide +kernel
theorem dL_467 : decode code 467 = .ok (.iadd, 1) := by decide +kernel
theorem dL_468 : decode code 468 = .ok (.iaload, 1) := by decide +kernel
theorem dL_469 : decode code 469 = .ok (.aload_n 0, 1) := by decide +kernel
theorem dL_470 : decode code 470 = .ok (.iload_n 3, 1) := by decide +kernel
theorem dL_471 : decode code 471 = .ok (.bipush 6, 2) := by decide +kernel
theorem dL_473 : decode code 473 = .ok (.iadd, 1) := by decide +kernel
theorem dL_474 : decode code 474 = .ok (.iaload, 1) := by decide +kernel
theorem dL_475 : decode code 475 = .ok (.invokevirtual 46, 3) := by decide +kernel
theorem dL_478 : decode code 478 = .ok (.if_icmp .eq 1007, 3) := by decide +kernel
theorem lz_c6 {b L : Nat} {xs : Nat → Int32} {i : Int32} {h : ai_H} (hi : ∀ v : Nat, v < 8 → vp_in (i + nI v) L) (J : JI h) (hr1 : h.1 + 11 ≤ room_1.cells) (hr2 : h.2.1 + 3917 ≤ room_1.slots) (kx : ∀ h2, JI h2 → h2.1 ≤ h.1 + 11 → h2.2.1 ≤ h.2.1 + 3917 → lz_R b L xs 1485 [.retAddr 31, .ref 0, .ref 307, .int i] [] h2) : lz_R b L xs 408 [.retAddr 31, .ref 0, .ref 307, .int i] [] h := by
  obtain ⟨r, h1, h2, ⟨v, rfl⟩, m1, m2, ⟨fs1, e1⟩, J2, s1, s2⟩ := js_seen (xs (i + nI 1).toNatClampNeg) (xs (i + nI 2).toNatClampNeg) (xs (i + nI 3).toNatClampNeg) (xs (i + nI 4).toNatClampNeg) (xs (i + nI 5).toNatClampNeg) (xs (i + nI 6).toNatClampNeg) h J
  have a1 := m1.1
  have a2 := m2.1
  obtain ⟨q0, fs0, e0⟩ := JI_cells J
  refine lz_ald (q := 0) dL_408 rfl ?_
  refine lz_arg (v := nI 1) dL_409 dL_410 dL_411 dL_412 dL_413 (by decide) (hi 1 (by decide)) ?_
  refine lz_arg (v := nI 2) dL_414 dL_415 dL_416 dL_417 dL_418 (by decide) (hi 2 (by decide)) ?_
  refine lz_arg (v := nI 3) dL_419 dL_420 dL_421 dL_422 dL_423 (by decide) (hi 3 (by decide)) ?_
  refine lz_arg (v := nI 4) dL_424 dL_425 dL_426 dL_427 dL_428 (by decide) (hi 4 (by decide)) ?_
  refine lz_arg (v := nI 5) dL_429 dL_430 dL_431 dL_432 dL_433 (by decide) (hi 5 (by decide)) ?_
  refine lz_arg2 (v := nI 6) dL_434 dL_435 dL_436 dL_438 dL_439 (by decide) (hi 6 (by decide)) ?_
  refine lz_call (as := [.int (xs (i + nI 1).toNatClampNeg), .int (xs (i + nI 2).toNatClampNeg), .int (xs (i + nI 3).toNatClampNeg), .int (xs (i + nI 4).toNatClampNeg), .int (xs (i + nI 5).toNatClampNeg), .int (xs (i + nI 6).toNatClampNeg)]) (st := []) (ci := 11) (q := 0) dL_440 mk_X11_seen mlL_42 in_X11_seen se_X11_seen rfl (by omega) e0 rfl rfl (Nat.le_of_ble_eq_true rfl) m1 (by omega) (by omega) ?_
  show lz_R b L xs 443 [.retAddr 31, .ref 0, .ref 307, .int i] [.int v] h1
  refine lz_ald (q := 307) dL_443 rfl ?_
  refine lz_arg (v := nI 1) dL_444 dL_445 dL_446 dL_447 dL_448 (by decide) (hi 1 (by decide)) ?_
  refine lz_arg (v := nI 2) dL_449 dL_450 dL_451 dL_452 dL_453 (by decide) (hi 2 (by decide)) ?_
  refine lz_arg (v := nI 3) dL_454 dL_455 dL_456 dL_457 dL_458 (by decide) (hi 3 (by decide)) ?_
  refine lz_arg (v := nI 4) dL_459 dL_460 dL_461 dL_462 dL_463 (by decide) (hi 4 (by decide)) ?_
  refine lz_arg (v := nI 5) dL_464 dL_465 dL_466 dL_467 dL_468 (by decide) (hi 5 (by decide)) ?_
  refine lz_arg2 (v := nI 6) dL_469 dL_470 dL_471 dL_473 dL_474 (by decide) (hi 6 (by decide)) ?_
  refine lz_call (as := [.int (xs (i + nI 1).toNatClampNeg), .int (xs (i + nI 2).toNatClampNeg), .int (xs (i + nI 3).toNatClampNeg), .int (xs (i + nI 4).toNatClampNeg), .int (xs (i + nI 5).toNatClampNeg), .int (xs (i + nI 6).toNatClampNeg)]) (st := [.int v]) (ci := 12) (q := 307) dL_475 mk_X12_seen mlL_46 in_X12_seen se_X12_seen rfl (by omega) e1 rfl rfl (Nat.le_of_ble_eq_true rfl) m2 (by omega) (by omega) ?_
  show lz_R b L xs 478 [.retAddr 31, .ref 0, .ref 307, .int i] [.int v, .int v] h2
  refine lz_eqI (tgt := 1485) dL_478 (by decide) ?_
  exact kx h2 J2 s1 s2
theorem dL_483 : decode code 483 = .ok (.aload_n 1, 1) := by decide +kernel
theorem dL_484 : decode code 484 = .ok (.aload_n 0, 1) := by decide +kernel
theorem dL_485 : decode code 485 = .ok (.iload_n 3, 1) := by decide +kernel
theorem dL_486 : decode code 486 = .ok (.iconst 1, 1) := by decide +kernel
theorem dL_487 : decode code 487 = .ok (.iadd, 1) := by decide +kernel
theorem dL_488 : decode code 488 = .ok (.iaload, 1) := by decide +kernel
theorem dL_489 : decode code 489 = .ok (.aload_n 0, 1) := by decide +kernel
theorem dL_490 : decode code 490 = .ok (.iload_n 3, 1) := by decide +kernel
theorem dL_491 : decode code 491 = .ok (.iconst 2, 1) := by decide +kernel
theorem dL_492 : decode code 492 = .ok (.iadd, 1) := by decide +kernel
theorem dL_493 : decode code 493 = .ok (.iaload, 1) := by decide +kernel
theorem dL_494 : decode code 494 = .ok (.aload_n 0, 1) := by decide +kernel
theorem dL_495 : decode code 495 = .ok (.iload_n 3, 1) := by decide +kernel
theorem dL_496 : decode code 496 = .ok (.iconst 3, 1) := by decide +kernel
theorem dL_497 : decode code 497 = .ok (.iadd, 1) := by decide +kernel
theorem dL_498 : decode code 498 = .ok (.iaload, 1) := by decide +kernel
theorem dL_499 : decode code 499 = .ok (.aload_n 0, 1) := by decide +kernel
theorem dL_500 : decode code 500 = .ok (.iload_n 3, 1) := by decide +kernel
theorem dL_501 : decode code 501 = .ok (.iconst 4, 1) := by decide +kernel
theorem dL_502 : decode code 502 = .ok (.iadd, 1) := by decide +kernel
theorem dL_503 : decode code 503 = .ok (.iaload, 1) := by decide +kernel
theorem dL_504 : decode code 504 = .ok (.aload_n 0, 1) := by decide +kernel
theorem dL_505 : decode code 505 = .ok (.iload_n 3, 1) := by decide +kernel
theorem dL_506 : decode code 506 = .ok (.iconst 5, 1) := by decide +kernel
theorem dL_507 : decode code 507 = .ok (.iadd, 1) := by decide +kernel
theorem dL_508 : decode code 508 = .ok (.iaload, 1) := by decide +kernel
theorem dL_509 : decode code 509 = .ok (.invokevirtual 47, 3) := by decide +kernel
theorem dL_512 : decode code 512 = .ok (.aload_n 2, 1) := by decide +kernel
theorem dL_513 : decode code 513 = .ok (.aload_n 0, 1) := by decide +kernel
theorem dL_514 : decode code 514 = .ok (.iload_n 3, 1) := by decide +kernel
theorem dL_515 : decode code 515 = .ok (.iconst 1, 1) := by decide +kernel
theorem dL_516 : decode code 516 = .ok (.iadd, 1) := by decide +kernel
theorem dL_517 : decode code 517 = .ok (.iaload, 1) := by decide +kernel
theorem dL_518 : decode code 518 = .ok (.aload_n 0, 1) := by decide +kernel
theorem dL_519 : decode code 519 = .ok (.iload_n 3, 1) := by decide +kernel
theorem dL_520 : decode code 520 = .ok (.iconst 2, 1) := by decide +kernel
theorem dL_521 : decode code 521 = .ok (.iadd, 1) := by decide +kernel
theorem dL_522 : decode code 522 = .ok (.iaload, 1) := by decide +kernel
theorem dL_523 : decode code 523 = .ok (.aload_n 0, 1) := by decide +kernel
theorem dL_524 : decode code 524 = .ok (.iload_n 3, 1) := by decide +kernel
theorem dL_525 : decode code 525 = .ok (.iconst 3, 1) := by decide +kernel
theorem dL_526 : decode code 526 = .ok (.iadd, 1) := by decide +kernel
theorem dL_527 : decode code 527 = .ok (.iaload, 1) := by decide +kernel
theorem dL_528 : decode code 528 = .ok (.aload_n 0, 1) := by decide +kernel
theorem dL_529 : decode code 529 = .ok (.iload_n 3, 1) := by decide +kernel
theorem dL_530 : decode code 530 = .ok (.iconst 4, 1) := by decide +kernel
theorem dL_531 : decode code 531 = .ok (.iadd, 1) := by decide +kernel
theorem dL_532 : decode code 532 = .ok (.iaload, 1) := by decide +kernel
theorem dL_533 : decode code 533 = .ok (.aload_n 0, 1) := by decide +kernel
theorem dL_534 : decode code 534 = .ok (.iload_n 3, 1) := by decide +kernel
theorem dL_535 : decode code 535 = .ok (.iconst 5, 1) := by decide +kernel
theorem dL_536 : decode code 536 = .ok (.iadd, 1) := by decide +kernel
theorem dL_537 : decode code 537 = .ok (.iaload, 1) := by decide +kernel
theorem dL_538 : decode code 538 = .ok (.invokevirtual 51, 3) := by decide +kernel
theorem dL_541 : decode code 541 = .ok (.if_icmp .eq 944, 3) := by decide +kernel
theorem lz_c7 {b L : Nat} {xs : Nat → Int32} {i : Int32} {h : ai_H} (hi : ∀ v : Nat, v < 8 → vp_in (i + nI v) L) (J : JI h) (hr1 : h.1 + 11 ≤ room_1.cells) (hr2 : h.2.1 + 3917 ≤ room_1.slots) (kx : ∀ h2, JI h2 → h2.1 ≤ h.1 + 11 → h2.2.1 ≤ h.2.1 + 3917 → lz_R b L xs 1485 [.retAddr 31, .ref 0, .ref 307, .int i] [] h2) : lz_R b L xs 483 [.retAddr 31, .ref 0, .ref 307, .int i] [] h := by
  obtain ⟨r, h1, h2, ⟨v, rfl⟩, m1, m2, ⟨fs1, e1⟩, J2, s1, s2⟩ := js_feed (xs (i + nI 1).toNatClampNeg) (xs (i + nI 2).toNatClampNeg) (xs (i + nI 3).toNatClampNeg) (xs (i + nI 4).toNatClampNeg) (xs (i + nI 5).toNatClampNeg) h J
  have a1 := m1.1
  have a2 := m2.1
  obtain ⟨q0, fs0, e0⟩ := JI_cells J
  refine lz_ald (q := 0) dL_483 rfl ?_
  refine lz_arg (v := nI 1) dL_484 dL_485 dL_486 dL_487 dL_488 (by decide) (hi 1 (by decide)) ?_
  refine lz_arg (v := nI 2) dL_489 dL_490 dL_491 dL_492 dL_493 (by decide) (hi 2 (by decide)) ?_
  refine lz_arg (v := nI 3) dL_494 dL_495 dL_496 dL_497 dL_498 (by decide) (hi 3 (by decide)) ?_
  refine lz_arg (v := nI 4) dL_499 dL_500 dL_501 dL_502 dL_503 (by decide) (hi 4 (by decide)) ?_
  refine lz_arg (v := nI 5) dL_504 dL_505 dL_506 dL_507 dL_508 (by decide) (hi 5 (by decide)) ?_
  refine lz_call (as := [.int (xs (i + nI 1).toNatClampNeg), .int (xs (i + nI 2).toNatClampNeg), .int (xs (i + nI 3).toNatClampNeg), .int (xs (i + nI 4).toNatClampNeg), .int (xs (i + nI 5).toNatClampNeg)]) (st := []) (ci := 11) (q := 0) dL_509 mk_X11_feed mlL_47 in_X11_feed se_X11_feed rfl (by omega) e0 rfl rfl (Nat.le_of_ble_eq_true rfl) m1 (by omega) (by omega) ?_
  show lz_R b L xs 512 [.retAddr 31, .ref 0, .ref 307, .int i] [.int v] h1
  refine lz_ald (q := 307) dL_512 rfl ?_
  refine lz_arg (v := nI 1) dL_513 dL_514 dL_515 dL_516 dL_517 (by decide) (hi 1 (by decide)) ?_
  refine lz_arg (v := nI 2) dL_518 dL_519 dL_520 dL_521 dL_522 (by decide) (hi 2 (by decide)) ?_
  refine lz_arg (v := nI 3) dL_523 dL_524 dL_525 dL_526 dL_527 (by decide) (hi 3 (by decide)) ?_
  refine lz_arg (v := nI 4) dL_528 dL_529 dL_530 dL_531 dL_532 (by decide) (hi 4 (by decide)) ?_
  refine lz_arg (v := nI 5) dL_533 dL_534 dL_535 dL_536 dL_537 (by decide) (hi 5 (by decide)) ?_
  refine lz_call (as := [.int (xs (i + nI 1).toNatClampNeg), .int (xs (i + nI 2).toNatClampNeg), .int (xs (i + nI 3).toNatClampNeg), .int (xs (i + nI 4).toNatClampNeg), .int (xs (i + nI 5).toNatClampNeg)]) (st := [.int v]) (ci := 12) (q := 307) dL_538 mk_X12_feed mlL_51 in_X12_feed se_X12_feed rfl (by omega) e1 rfl rfl (Nat.le_of_ble_eq_true rfl) m2 (by omega) (by omega) ?_
  show lz_R b L xs 541 [.retAddr 31, .ref 0, .ref 307, .int i] [.int v, .int v] h2
  refine lz_eqI (tgt := 1485) dL_541 (by decide) ?_
  exact kx h2 J2 s1 s2
