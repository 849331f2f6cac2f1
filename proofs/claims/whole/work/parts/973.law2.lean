/-! LAW: fill, cut, swap -/
theorem dc_L_law_252 : decode code 252 = .ok (.aload_n 1, 1) := by decide +kernel
theorem dc_L_law_253 : decode code 253 = .ok (.aload_n 0, 1) := by decide +kernel
theorem dc_L_law_254 : decode code 254 = .ok (.iload 4, 2) := by decide +kernel
theorem dc_L_law_256 : decode code 256 = .ok (.iconst 1, 1) := by decide +kernel
theorem dc_L_law_257 : decode code 257 = .ok (.iadd, 1) := by decide +kernel
theorem dc_L_law_258 : decode code 258 = .ok (.iaload, 1) := by decide +kernel
theorem dc_L_law_259 : decode code 259 = .ok (.aload_n 0, 1) := by decide +kernel
theorem dc_L_law_260 : decode code 260 = .ok (.iload 4, 2) := by decide +kernel
theorem dc_L_law_262 : decode code 262 = .ok (.iconst 2, 1) := by decide +kernel
theorem dc_L_law_263 : decode code 263 = .ok (.iadd, 1) := by decide +kernel
theorem dc_L_law_264 : decode code 264 = .ok (.iaload, 1) := by decide +kernel
theorem dc_L_law_265 : decode code 265 = .ok (.aload_n 0, 1) := by decide +kernel
theorem dc_L_law_266 : decode code 266 = .ok (.iload 4, 2) := by decide +kernel
theorem dc_L_law_268 : decode code 268 = .ok (.iconst 3, 1) := by decide +kernel
theorem dc_L_law_269 : decode code 269 = .ok (.iadd, 1) := by decide +kernel
theorem dc_L_law_270 : decode code 270 = .ok (.iaload, 1) := by decide +kernel
theorem dc_L_law_271 : decode code 271 = .ok (.aload_n 0, 1) := by decide +kernel
theorem dc_L_law_272 : decode code 272 = .ok (.iload 4, 2) := by decide +kernel
theorem dc_L_law_274 : decode code 274 = .ok (.iconst 4, 1) := by decide +kernel
theorem dc_L_law_275 : decode code 275 = .ok (.iadd, 1) := by decide +kernel
theorem dc_L_law_276 : decode code 276 = .ok (.iaload, 1) := by decide +kernel
theorem dc_L_law_277 : decode code 277 = .ok (.i2l, 1) := by decide +kernel
theorem dc_L_law_278 : decode code 278 = .ok (.bipush 32, 2) := by decide +kernel
theorem dc_L_law_280 : decode code 280 = .ok (.lshl, 1) := by decide +kernel
theorem dc_L_law_281 : decode code 281 = .ok (.aload_n 0, 1) := by decide +kernel
theorem dc_L_law_282 : decode code 282 = .ok (.iload 4, 2) := by decide +kernel
theorem dc_L_law_284 : decode code 284 = .ok (.iconst 5, 1) := by decide +kernel
theorem dc_L_law_285 : decode code 285 = .ok (.iadd, 1) := by decide +kernel
theorem dc_L_law_286 : decode code 286 = .ok (.iaload, 1) := by decide +kernel
theorem dc_L_law_287 : decode code 287 = .ok (.i2l, 1) := by decide +kernel
theorem dc_L_law_288 : decode code 288 = .ok (.ldc2_w 92, 3) := by decide +kernel
theorem dc_L_law_291 : decode code 291 = .ok (.land, 1) := by decide +kernel
theorem dc_L_law_292 : decode code 292 = .ok (.lor, 1) := by decide +kernel
theorem dc_L_law_293 : decode code 293 = .ok (.aload_n 0, 1) := by decide +kernel
theorem dc_L_law_294 : decode code 294 = .ok (.iload 4, 2) := by decide +kernel
theorem dc_L_law_296 : decode code 296 = .ok (.bipush 6, 2) := by decide +kernel
theorem dc_L_law_298 : decode code 298 = .ok (.iadd, 1) := by decide +kernel
theorem dc_L_law_299 : decode code 299 = .ok (.iaload, 1) := by decide +kernel
theorem dc_L_law_300 : decode code 300 = .ok (.invokestatic 104, 3) := by decide +kernel
theorem dc_L_law_303 : decode code 303 = .ok (.istore 5, 2) := by decide +kernel
theorem dc_L_law_305 : decode code 305 = .ok (.aload_n 2, 1) := by decide +kernel
theorem dc_L_law_306 : decode code 306 = .ok (.aload_n 0, 1) := by decide +kernel
theorem dc_L_law_307 : decode code 307 = .ok (.iload 4, 2) := by decide +kernel
theorem dc_L_law_309 : decode code 309 = .ok (.iconst 1, 1) := by decide +kernel
theorem dc_L_law_310 : decode code 310 = .ok (.iadd, 1) := by decide +kernel
theorem dc_L_law_311 : decode code 311 = .ok (.iaload, 1) := by decide +kernel
theorem dc_L_law_312 : decode code 312 = .ok (.aload_n 0, 1) := by decide +kernel
theorem dc_L_law_313 : decode code 313 = .ok (.iload 4, 2) := by decide +kernel
theorem dc_L_law_315 : decode code 315 = .ok (.iconst 2, 1) := by decide +kernel
theorem dc_L_law_316 : decode code 316 = .ok (.iadd, 1) := by decide +kernel
theorem dc_L_law_317 : decode code 317 = .ok (.iaload, 1) := by decide +kernel
theorem dc_L_law_318 : decode code 318 = .ok (.aload_n 0, 1) := by decide +kernel
theorem dc_L_law_319 : decode code 319 = .ok (.iload 4, 2) := by decide +kernel
theorem dc_L_law_321 : decode code 321 = .ok (.iconst 3, 1) := by decide +kernel
theorem dc_L_law_322 : decode code 322 = .ok (.iadd, 1) := by decide +kernel
theorem dc_L_law_323 : decode code 323 = .ok (.iaload, 1) := by decide +kernel
theorem dc_L_law_324 : decode code 324 = .ok (.aload_n 0, 1) := by decide +kernel
theorem dc_L_law_325 : decode code 325 = .ok (.iload 4, 2) := by decide +kernel
theorem dc_L_law_327 : decode code 327 = .ok (.iconst 4, 1) := by decide +kernel
theorem dc_L_law_328 : decode code 328 = .ok (.iadd, 1) := by decide +kernel
theorem dc_L_law_329 : decode code 329 = .ok (.iaload, 1) := by decide +kernel
theorem dc_L_law_330 : decode code 330 = .ok (.i2l, 1) := by decide +kernel
theorem dc_L_law_331 : decode code 331 = .ok (.bipush 32, 2) := by decide +kernel
theorem dc_L_law_333 : decode code 333 = .ok (.lshl, 1) := by decide +kernel
theorem dc_L_law_334 : decode code 334 = .ok (.aload_n 0, 1) := by decide +kernel
theorem dc_L_law_335 : decode code 335 = .ok (.iload 4, 2) := by decide +kernel
theorem dc_L_law_337 : decode code 337 = .ok (.iconst 5, 1) := by decide +kernel
theorem dc_L_law_338 : decode code 338 = .ok (.iadd, 1) := by decide +kernel
theorem dc_L_law_339 : decode code 339 = .ok (.iaload, 1) := by decide +kernel
theorem dc_L_law_340 : decode code 340 = .ok (.i2l, 1) := by decide +kernel
theorem dc_L_law_341 : decode code 341 = .ok (.ldc2_w 92, 3) := by decide +kernel
theorem dc_L_law_344 : decode code 344 = .ok (.land, 1) := by decide +kernel
theorem dc_L_law_345 : decode code 345 = .ok (.lor, 1) := by decide +kernel
theorem dc_L_law_346 : decode code 346 = .ok (.aload_n 0, 1) := by decide +kernel
theorem dc_L_law_347 : decode code 347 = .ok (.iload 4, 2) := by decide +kernel
theorem dc_L_law_349 : decode code 349 = .ok (.bipush 6, 2) := by decide +kernel
theorem dc_L_law_351 : decode code 351 = .ok (.iadd, 1) := by decide +kernel
theorem dc_L_law_352 : decode code 352 = .ok (.iaload, 1) := by decide +kernel
theorem dc_L_law_353 : decode code 353 = .ok (.invokevirtual 107, 3) := by decide +kernel
theorem dc_L_law_356 : decode code 356 = .ok (.aload_n 2, 1) := by decide +kernel
theorem dc_L_law_357 : decode code 357 = .ok (.invokevirtual 100, 3) := by decide +kernel
theorem dc_L_law_360 : decode code 360 = .ok (.iload 5, 2) := by decide +kernel
theorem dc_L_law_362 : decode code 362 = .ok (.if_icmp .eq 5, 3) := by decide +kernel
theorem dc_L_law_365 : decode code 365 = .ok (.iconst 0, 1) := by decide +kernel
theorem dc_L_law_366 : decode code 366 = .ok (.ireturn, 1) := by decide +kernel
theorem dc_L_law_367 : decode code 367 = .ok (.goto 1233, 3) := by decide +kernel
theorem dc_L_law_370 : decode code 370 = .ok (.aload_n 1, 1) := by decide +kernel
theorem dc_L_law_371 : decode code 371 = .ok (.aload_n 0, 1) := by decide +kernel
theorem dc_L_law_372 : decode code 372 = .ok (.iload 4, 2) := by decide +kernel
theorem dc_L_law_374 : decode code 374 = .ok (.iconst 1, 1) := by decide +kernel
theorem dc_L_law_375 : decode code 375 = .ok (.iadd, 1) := by decide +kernel
theorem dc_L_law_376 : decode code 376 = .ok (.iaload, 1) := by decide +kernel
theorem dc_L_law_377 : decode code 377 = .ok (.aload_n 0, 1) := by decide +kernel
theorem dc_L_law_378 : decode code 378 = .ok (.iload 4, 2) := by decide +kernel
theorem dc_L_law_380 : decode code 380 = .ok (.iconst 2, 1) := by decide +kernel
theorem dc_L_law_381 : decode code 381 = .ok (.iadd, 1) := by decide +kernel
theorem dc_L_law_382 : decode code 382 = .ok (.iaload, 1) := by decide +kernel
theorem dc_L_law_383 : decode code 383 = .ok (.invokestatic 108, 3) := by decide +kernel
theorem dc_L_law_386 : decode code 386 = .ok (.istore 5, 2) := by decide +kernel
theorem dc_L_law_388 : decode code 388 = .ok (.aload_n 2, 1) := by decide +kernel
theorem dc_L_law_389 : decode code 389 = .ok (.aload_n 0, 1) := by decide +kernel
theorem dc_L_law_390 : decode code 390 = .ok (.iload 4, 2) := by decide +kernel
theorem dc_L_law_392 : decode code 392 = .ok (.iconst 1, 1) := by decide +kernel
theorem dc_L_law_393 : decode code 393 = .ok (.iadd, 1) := by decide +kernel
theorem dc_L_law_394 : decode code 394 = .ok (.iaload, 1) := by decide +kernel
theorem dc_L_law_395 : decode code 395 = .ok (.aload_n 0, 1) := by decide +kernel
theorem dc_L_law_396 : decode code 396 = .ok (.iload 4, 2) := by decide +kernel
theorem dc_L_law_398 : decode code 398 = .ok (.iconst 2, 1) := by decide +kernel
theorem dc_L_law_399 : decode code 399 = .ok (.iadd, 1) := by decide +kernel
theorem dc_L_law_400 : decode code 400 = .ok (.iaload, 1) := by decide +kernel
theorem dc_L_law_401 : decode code 401 = .ok (.invokevirtual 111, 3) := by decide +kernel
theorem dc_L_law_404 : decode code 404 = .ok (.aload_n 2, 1) := by decide +kernel
theorem dc_L_law_405 : decode code 405 = .ok (.invokevirtual 100, 3) := by decide +kernel
theorem dc_L_law_408 : decode code 408 = .ok (.iload 5, 2) := by decide +kernel
theorem dc_L_law_410 : decode code 410 = .ok (.if_icmp .eq 5, 3) := by decide +kernel
theorem dc_L_law_413 : decode code 413 = .ok (.iconst 0, 1) := by decide +kernel
theorem dc_L_law_414 : decode code 414 = .ok (.ireturn, 1) := by decide +kernel
theorem dc_L_law_415 : decode code 415 = .ok (.goto 1185, 3) := by decide +kernel
theorem dc_L_law_418 : decode code 418 = .ok (.aload_n 1, 1) := by decide +kernel
theorem dc_L_law_419 : decode code 419 = .ok (.aload_n 0, 1) := by decide +kernel
theorem dc_L_law_420 : decode code 420 = .ok (.iload 4, 2) := by decide +kernel
theorem dc_L_law_422 : decode code 422 = .ok (.iconst 1, 1) := by decide +kernel
theorem dc_L_law_423 : decode code 423 = .ok (.iadd, 1) := by decide +kernel
theorem dc_L_law_424 : decode code 424 = .ok (.iaload, 1) := by decide +kernel
theorem dc_L_law_425 : decode code 425 = .ok (.aload_n 0, 1) := by decide +kernel
theorem dc_L_law_426 : decode code 426 = .ok (.iload 4, 2) := by decide +kernel
theorem dc_L_law_428 : decode code 428 = .ok (.iconst 2, 1) := by decide +kernel
theorem dc_L_law_429 : decode code 429 = .ok (.iadd, 1) := by decide +kernel
theorem dc_L_law_430 : decode code 430 = .ok (.iaload, 1) := by decide +kernel
theorem dc_L_law_431 : decode code 431 = .ok (.aload_n 0, 1) := by decide +kernel
theorem dc_L_law_432 : decode code 432 = .ok (.iload 4, 2) := by decide +kernel
theorem dc_L_law_434 : decode code 434 = .ok (.iconst 3, 1) := by decide +kernel
theorem dc_L_law_435 : decode code 435 = .ok (.iadd, 1) := by decide +kernel
theorem dc_L_law_436 : decode code 436 = .ok (.iaload, 1) := by decide +kernel
theorem dc_L_law_437 : decode code 437 = .ok (.invokestatic 112, 3) := by decide +kernel
theorem dc_L_law_440 : decode code 440 = .ok (.istore 5, 2) := by decide +kernel
theorem dc_L_law_442 : decode code 442 = .ok (.aload_n 2, 1) := by decide +kernel
theorem dc_L_law_443 : decode code 443 = .ok (.aload_n 0, 1) := by decide +kernel
theorem dc_L_law_444 : decode code 444 = .ok (.iload 4, 2) := by decide +kernel
theorem dc_L_law_446 : decode code 446 = .ok (.iconst 1, 1) := by decide +kernel
theorem dc_L_law_447 : decode code 447 = .ok (.iadd, 1) := by decide +kernel
theorem dc_L_law_448 : decode code 448 = .ok (.iaload, 1) := by decide +kernel
theorem dc_L_law_449 : decode code 449 = .ok (.aload_n 0, 1) := by decide +kernel
theorem dc_L_law_450 : decode code 450 = .ok (.iload 4, 2) := by decide +kernel
theorem dc_L_law_452 : decode code 452 = .ok (.iconst 2, 1) := by decide +kernel
theorem dc_L_law_453 : decode code 453 = .ok (.iadd, 1) := by decide +kernel
theorem dc_L_law_454 : decode code 454 = .ok (.iaload, 1) := by decide +kernel
theorem dc_L_law_455 : decode code 455 = .ok (.aload_n 0, 1) := by decide +kernel
theorem dc_L_law_456 : decode code 456 = .ok (.iload 4, 2) := by decide +kernel
theorem dc_L_law_458 : decode code 458 = .ok (.iconst 3, 1) := by decide +kernel
theorem dc_L_law_459 : decode code 459 = .ok (.iadd, 1) := by decide +kernel
theorem dc_L_law_460 : decode code 460 = .ok (.iaload, 1) := by decide +kernel
theorem dc_L_law_461 : decode code 461 = .ok (.invokevirtual 115, 3) := by decide +kernel
theorem dc_L_law_464 : decode code 464 = .ok (.aload_n 2, 1) := by decide +kernel
theorem dc_L_law_465 : decode code 465 = .ok (.invokevirtual 100, 3) := by decide +kernel
theorem dc_L_law_468 : decode code 468 = .ok (.iload 5, 2) := by decide +kernel
theorem dc_L_law_470 : decode code 470 = .ok (.if_icmp .eq 5, 3) := by decide +kernel
theorem dc_L_law_473 : decode code 473 = .ok (.iconst 0, 1) := by decide +kernel
theorem dc_L_law_474 : decode code 474 = .ok (.ireturn, 1) := by decide +kernel
theorem dc_L_law_475 : decode code 475 = .ok (.goto 1125, 3) := by decide +kernel
set_option maxHeartbeats 4000000 in
set_option maxRecDepth 100000 in
theorem lh_fill {o : YO} {b L : Nat} {xs : Nat → Int32} (hLw : yLw o b L xs) (hR : yRm o 0 0) (i : Nat) (hi : i + 7 ≤ L) (S1 : YS) (c : Nat) (hc4 : c < 4) (lev : Nat) (hlev : lev ≤ 30) (H : yC o.l mn_M_fill mb_M_fill 12 none lev o.G [.ref (o.G.ad (24)), .int (xs (i + 1)), .int (xs (i + 2)), .int (xs (i + 3)), .long (((Int32.toInt64 (xs (i + 4))) <<< (Int32.toInt64 (nI (32)) &&& 63)) ||| ((Int32.toInt64 (xs (i + 5))) &&& 4294967295)), .int (xs (i + 6))] S1 (fun v S2 => dV v (gL S2 31 0) c ∧ gF S2 24 0 = nI c ∧ yInv S2)) (kk : ∀ S2 : YS, yInv S2 → yW o S2 1600 [(4, .int (nI (i))), (3, .ref (o.G.ad (31))), (2, .ref (o.G.ad (24))), (1, .ref (o.G.ad (0))), (0, .ref (b))] []) : yW o S1 303 [(4, .int (nI (i))), (3, .ref (o.G.ad (31))), (2, .ref (o.G.ad (24))), (1, .ref (o.G.ad (0))), (0, .ref (b))] [.int (nI c)] := by
  have hB := hLw.1
  have hm := hLw.2.1
  have hL := hLw.2.2.2.2.2.2.1
  refine y_istore (pc' := 305) (lv' := [(5, .int (nI (c))), (4, .int (nI (i))), (3, .ref (o.G.ad (31))), (2, .ref (o.G.ad (24))), (1, .ref (o.G.ad (0))), (0, .ref (b))]) hB hm dc_L_law_303 rfl (by decide) rfl ?_
  refine y_aload_n (pc' := 306) hB dc_L_law_305 rfl rfl 3 rfl ?_
  refine y_aload_n (pc' := 307) hB dc_L_law_306 rfl rfl 5 rfl ?_
  refine y_iload (pc' := 309) hB dc_L_law_307 rfl 1 rfl ?_
  refine y_iconst (v := nI 1) (pc' := 310) hB dc_L_law_309 rfl rfl ?_
  refine n_iadd (x := i) (y := 1) (pc' := 311) hB dc_L_law_310 rfl ?_
  refine y_sld (j := i + 1) (pc' := 312) hLw dc_L_law_311 rfl (by omega) ?_
  refine y_aload_n (pc' := 313) hB dc_L_law_312 rfl rfl 5 rfl ?_
  refine y_iload (pc' := 315) hB dc_L_law_313 rfl 1 rfl ?_
  refine y_iconst (v := nI 2) (pc' := 316) hB dc_L_law_315 rfl rfl ?_
  refine n_iadd (x := i) (y := 2) (pc' := 317) hB dc_L_law_316 rfl ?_
  refine y_sld (j := i + 2) (pc' := 318) hLw dc_L_law_317 rfl (by omega) ?_
  refine y_aload_n (pc' := 319) hB dc_L_law_318 rfl rfl 5 rfl ?_
  refine y_iload (pc' := 321) hB dc_L_law_319 rfl 1 rfl ?_
  refine y_iconst (v := nI 3) (pc' := 322) hB dc_L_law_321 rfl rfl ?_
  refine n_iadd (x := i) (y := 3) (pc' := 323) hB dc_L_law_322 rfl ?_
  refine y_sld (j := i + 3) (pc' := 324) hLw dc_L_law_323 rfl (by omega) ?_
  refine y_aload_n (pc' := 325) hB dc_L_law_324 rfl rfl 5 rfl ?_
  refine y_iload (pc' := 327) hB dc_L_law_325 rfl 1 rfl ?_
  refine y_iconst (v := nI 4) (pc' := 328) hB dc_L_law_327 rfl rfl ?_
  refine n_iadd (x := i) (y := 4) (pc' := 329) hB dc_L_law_328 rfl ?_
  refine y_sld (j := i + 4) (pc' := 330) hLw dc_L_law_329 rfl (by omega) ?_
  refine y_i2l (v := Int32.toInt64 (xs (i + 4))) (pc' := 331) hB dc_L_law_330 rfl rfl ?_
  refine y_bipush (v := nI 32) (pc' := 333) hB dc_L_law_331 rfl (by decide) ?_
  refine y_lshl (v := (Int32.toInt64 (xs (i + 4))) <<< (Int32.toInt64 (nI (32)) &&& 63)) (pc' := 334) hB dc_L_law_333 rfl rfl ?_
  refine y_aload_n (pc' := 335) hB dc_L_law_334 rfl rfl 5 rfl ?_
  refine y_iload (pc' := 337) hB dc_L_law_335 rfl 1 rfl ?_
  refine y_iconst (v := nI 5) (pc' := 338) hB dc_L_law_337 rfl rfl ?_
  refine n_iadd (x := i) (y := 5) (pc' := 339) hB dc_L_law_338 rfl ?_
  refine y_sld (j := i + 5) (pc' := 340) hLw dc_L_law_339 rfl (by omega) ?_
  refine y_i2l (v := Int32.toInt64 (xs (i + 5))) (pc' := 341) hB dc_L_law_340 rfl rfl ?_
  refine y_ldc2 (v := 4294967295) (pc' := 344) hB dc_L_law_341 rfl q_822 ?_
  refine y_land (v := (Int32.toInt64 (xs (i + 5))) &&& 4294967295) (pc' := 345) hB dc_L_law_344 rfl rfl ?_
  refine y_lor (v := ((Int32.toInt64 (xs (i + 4))) <<< (Int32.toInt64 (nI (32)) &&& 63)) ||| ((Int32.toInt64 (xs (i + 5))) &&& 4294967295)) (pc' := 346) hB dc_L_law_345 rfl rfl ?_
  refine y_aload_n (pc' := 347) hB dc_L_law_346 rfl rfl 5 rfl ?_
  refine y_iload (pc' := 349) hB dc_L_law_347 rfl 1 rfl ?_
  refine y_bipush (v := nI 6) (pc' := 351) hB dc_L_law_349 rfl (by decide) ?_
  refine n_iadd (x := i) (y := 6) (pc' := 352) hB dc_L_law_351 rfl ?_
  refine y_sld (j := i + 6) (pc' := 353) hLw dc_L_law_352 rfl (by omega) ?_
  refine y_gV (c := 24) (ci := 4) (As := [.int (xs (i + 1)), .int (xs (i + 2)), .int (xs (i + 3)), .long (((Int32.toInt64 (xs (i + 4))) <<< (Int32.toInt64 (nI (32)) &&& 63)) ||| ((Int32.toInt64 (xs (i + 5))) &&& 4294967295)), .int (xs (i + 6))]) (rest := []) (pc' := 356) hB (hLw.2.2.1 _ _ (by omega) (by decide)) hR (H) mm_M_fill q_676 q_677 q_678 (by decide) rfl rfl dc_L_law_353 rfl rfl rfl (Nat.le_of_ble_eq_true rfl) (fun v S' hpost => ?_)
  obtain ⟨hd0, hcode, hI2⟩ := hpost
  obtain rfl : v = none := hd0
  show yW o (S') 356 [(5, .int (nI (c))), (4, .int (nI (i))), (3, .ref (o.G.ad (31))), (2, .ref (o.G.ad (24))), (1, .ref (o.G.ad (0))), (0, .ref (b))] []
  refine y_aload_n (pc' := 357) hB dc_L_law_356 rfl rfl 3 rfl ?_
  refine y_gV (c := 24) (ci := 4) (As := []) (rest := []) (pc' := 360) hB (hLw.2.2.1 _ _ (by decide) (by decide)) hR (ct_M_thrown o.l o.G S') mm_M_thrown q_664 q_665 q_666 (by decide) rfl rfl dc_L_law_357 rfl rfl rfl (Nat.le_of_ble_eq_true rfl) (fun v S' hpost => ?_)
  obtain ⟨rfl, hSS⟩ := hpost
  subst hSS
  show yW o (S') 360 [(5, .int (nI (c))), (4, .int (nI (i))), (3, .ref (o.G.ad (31))), (2, .ref (o.G.ad (24))), (1, .ref (o.G.ad (0))), (0, .ref (b))] [.int (gF S' 24 0)]
  refine y_topi (y := nI (c)) (hcode) ?_
  refine y_iload (pc' := 362) hB dc_L_law_360 rfl 0 rfl ?_
  refine n_icmp_eq (pc' := 365) (tg := 367) hB dc_L_law_362 rfl rfl (by omega) (by omega) (fun b2 => ?_) (fun b2 => ?_)
  · refine y_goto (tg := 1600) hB dc_L_law_367 rfl ?_
    refine y_sub [1, 2, 3, 4, 5] rfl ?_
    exact kk _ hI2
  · omega
set_option maxHeartbeats 4000000 in
set_option maxRecDepth 100000 in
theorem lg_fill {o : YO} {b L : Nat} {xs : Nat → Int32} (hLw : yLw o b L xs) (hR : yRm o 1 6) (i : Nat) (hi : i + 7 ≤ L) (S : YS) (hI : yInv S) (kk : ∀ S2 : YS, yInv S2 → yW (yat o (o.cells + 1) (o.slots + 6)) S2 1600 [(4, .int (nI (i))), (3, .ref (o.G.ad (31))), (2, .ref (o.G.ad (24))), (1, .ref (o.G.ad (0))), (0, .ref (b))] []) : yW o S 252 [(4, .int (nI (i))), (3, .ref (o.G.ad (31))), (2, .ref (o.G.ad (24))), (1, .ref (o.G.ad (0))), (0, .ref (b))] [] := by
  have hB := hLw.1
  have hm := hLw.2.1
  have hL := hLw.2.2.2.2.2.2.1
  refine y_aload_n (pc' := 253) hB dc_L_law_252 rfl rfl 3 rfl ?_
  refine y_aload_n (pc' := 254) hB dc_L_law_253 rfl rfl 4 rfl ?_
  refine y_iload (pc' := 256) hB dc_L_law_254 rfl 0 rfl ?_
  refine y_iconst (v := nI 1) (pc' := 257) hB dc_L_law_256 rfl rfl ?_
  refine n_iadd (x := i) (y := 1) (pc' := 258) hB dc_L_law_257 rfl ?_
  refine y_sld (j := i + 1) (pc' := 259) hLw dc_L_law_258 rfl (by omega) ?_
  refine y_aload_n (pc' := 260) hB dc_L_law_259 rfl rfl 4 rfl ?_
  refine y_iload (pc' := 262) hB dc_L_law_260 rfl 0 rfl ?_
  refine y_iconst (v := nI 2) (pc' := 263) hB dc_L_law_262 rfl rfl ?_
  refine n_iadd (x := i) (y := 2) (pc' := 264) hB dc_L_law_263 rfl ?_
  refine y_sld (j := i + 2) (pc' := 265) hLw dc_L_law_264 rfl (by omega) ?_
  refine y_aload_n (pc' := 266) hB dc_L_law_265 rfl rfl 4 rfl ?_
  refine y_iload (pc' := 268) hB dc_L_law_266 rfl 0 rfl ?_
  refine y_iconst (v := nI 3) (pc' := 269) hB dc_L_law_268 rfl rfl ?_
  refine n_iadd (x := i) (y := 3) (pc' := 270) hB dc_L_law_269 rfl ?_
  refine y_sld (j := i + 3) (pc' := 271) hLw dc_L_law_270 rfl (by omega) ?_
  refine y_aload_n (pc' := 272) hB dc_L_law_271 rfl rfl 4 rfl ?_
  refine y_iload (pc' := 274) hB dc_L_law_272 rfl 0 rfl ?_
  refine y_iconst (v := nI 4) (pc' := 275) hB dc_L_law_274 rfl rfl ?_
  refine n_iadd (x := i) (y := 4) (pc' := 276) hB dc_L_law_275 rfl ?_
  refine y_sld (j := i + 4) (pc' := 277) hLw dc_L_law_276 rfl (by omega) ?_
  refine y_i2l (v := Int32.toInt64 (xs (i + 4))) (pc' := 278) hB dc_L_law_277 rfl rfl ?_
  refine y_bipush (v := nI 32) (pc' := 280) hB dc_L_law_278 rfl (by decide) ?_
  refine y_lshl (v := (Int32.toInt64 (xs (i + 4))) <<< (Int32.toInt64 (nI (32)) &&& 63)) (pc' := 281) hB dc_L_law_280 rfl rfl ?_
  refine y_aload_n (pc' := 282) hB dc_L_law_281 rfl rfl 4 rfl ?_
  refine y_iload (pc' := 284) hB dc_L_law_282 rfl 0 rfl ?_
  refine y_iconst (v := nI 5) (pc' := 285) hB dc_L_law_284 rfl rfl ?_
  refine n_iadd (x := i) (y := 5) (pc' := 286) hB dc_L_law_285 rfl ?_
  refine y_sld (j := i + 5) (pc' := 287) hLw dc_L_law_286 rfl (by omega) ?_
  refine y_i2l (v := Int32.toInt64 (xs (i + 5))) (pc' := 288) hB dc_L_law_287 rfl rfl ?_
  refine y_ldc2 (v := 4294967295) (pc' := 291) hB dc_L_law_288 rfl q_822 ?_
  refine y_land (v := (Int32.toInt64 (xs (i + 5))) &&& 4294967295) (pc' := 292) hB dc_L_law_291 rfl rfl ?_
  refine y_lor (v := ((Int32.toInt64 (xs (i + 4))) <<< (Int32.toInt64 (nI (32)) &&& 63)) ||| ((Int32.toInt64 (xs (i + 5))) &&& 4294967295)) (pc' := 293) hB dc_L_law_292 rfl rfl ?_
  refine y_aload_n (pc' := 294) hB dc_L_law_293 rfl rfl 4 rfl ?_
  refine y_iload (pc' := 296) hB dc_L_law_294 rfl 0 rfl ?_
  refine y_bipush (v := nI 6) (pc' := 298) hB dc_L_law_296 rfl (by decide) ?_
  refine n_iadd (x := i) (y := 6) (pc' := 299) hB dc_L_law_298 rfl ?_
  refine y_sld (j := i + 6) (pc' := 300) hLw dc_L_law_299 rfl (by omega) ?_
  obtain ⟨c, P, hc4, hH, hM⟩ := duo_fill o.l hLw.2.2.2.2.2.2.2 o.G S hI (xs (i + 1)) (xs (i + 2)) (xs (i + 3)) (((Int32.toInt64 (xs (i + 4))) <<< (Int32.toInt64 (nI (32)) &&& 63)) ||| ((Int32.toInt64 (xs (i + 5))) &&& 4294967295)) (xs (i + 6))
  refine y_hS (k := 6) (As := [.ref (o.G.ad (0)), .int (xs (i + 1)), .int (xs (i + 2)), .int (xs (i + 3)), .long (((Int32.toInt64 (xs (i + 4))) <<< (Int32.toInt64 (nI (32)) &&& 63)) ||| ((Int32.toInt64 (xs (i + 5))) &&& 4294967295)), .int (xs (i + 6))]) (rest := []) (pc' := 303) hB (hLw.2.2.1 _ _ (by omega) (by decide)) hR hH q_231 q_0 ⟨by decide, by decide⟩ (by decide +kernel) q_229 q_230 dc_L_law_300 rfl rfl rfl (Nat.le_of_ble_eq_true rfl) (fun v S1 hpost => ?_)
  obtain ⟨rfl, hP⟩ := hpost
  obtain ⟨lev, hlev, hC⟩ := hM S1 hP
  exact lh_fill (o := (yat o (o.cells + 1) (o.slots + 6))) hLw ⟨hR.1, hR.2⟩ i hi S1 c hc4 lev hlev hC kk
set_option maxHeartbeats 4000000 in
set_option maxRecDepth 100000 in
theorem lh_cut {o : YO} {b L : Nat} {xs : Nat → Int32} (hLw : yLw o b L xs) (hR : yRm o 0 0) (i : Nat) (hi : i + 7 ≤ L) (S1 : YS) (c : Nat) (hc4 : c < 4) (lev : Nat) (hlev : lev ≤ 30) (H : yC o.l mn_M_cut mb_M_cut 3 none lev o.G [.ref (o.G.ad (24)), .int (xs (i + 1)), .int (xs (i + 2))] S1 (fun v S2 => dV v (gL S2 31 0) c ∧ gF S2 24 0 = nI c ∧ yInv S2)) (kk : ∀ S2 : YS, yInv S2 → yW o S2 1600 [(4, .int (nI (i))), (3, .ref (o.G.ad (31))), (2, .ref (o.G.ad (24))), (1, .ref (o.G.ad (0))), (0, .ref (b))] []) : yW o S1 386 [(4, .int (nI (i))), (3, .ref (o.G.ad (31))), (2, .ref (o.G.ad (24))), (1, .ref (o.G.ad (0))), (0, .ref (b))] [.int (nI c)] := by
  have hB := hLw.1
  have hm := hLw.2.1
  have hL := hLw.2.2.2.2.2.2.1
  refine y_istore (pc' := 388) (lv' := [(5, .int (nI (c))), (4, .int (nI (i))), (3, .ref (o.G.ad (31))), (2, .ref (o.G.ad (24))), (1, .ref (o.G.ad (0))), (0, .ref (b))]) hB hm dc_L_law_386 rfl (by decide) rfl ?_
  refine y_aload_n (pc' := 389) hB dc_L_law_388 rfl rfl 3 rfl ?_
  refine y_aload_n (pc' := 390) hB dc_L_law_389 rfl rfl 5 rfl ?_
  refine y_iload (pc' := 392) hB dc_L_law_390 rfl 1 rfl ?_
  refine y_iconst (v := nI 1) (pc' := 393) hB dc_L_law_392 rfl rfl ?_
  refine n_iadd (x := i) (y := 1) (pc' := 394) hB dc_L_law_393 rfl ?_
  refine y_sld (j := i + 1) (pc' := 395) hLw dc_L_law_394 rfl (by omega) ?_
  refine y_aload_n (pc' := 396) hB dc_L_law_395 rfl rfl 5 rfl ?_
  refine y_iload (pc' := 398) hB dc_L_law_396 rfl 1 rfl ?_
  refine y_iconst (v := nI 2) (pc' := 399) hB dc_L_law_398 rfl rfl ?_
  refine n_iadd (x := i) (y := 2) (pc' := 400) hB dc_L_law_399 rfl ?_
  refine y_sld (j := i + 2) (pc' := 401) hLw dc_L_law_400 rfl (by omega) ?_
  refine y_gV (c := 24) (ci := 4) (As := [.int (xs (i + 1)), .int (xs (i + 2))]) (rest := []) (pc' := 404) hB (hLw.2.2.1 _ _ (by omega) (by decide)) hR (H) mm_M_cut q_684 q_685 q_686 (by decide) rfl rfl dc_L_law_401 rfl rfl rfl (Nat.le_of_ble_eq_true rfl) (fun v S' hpost => ?_)
  obtain ⟨hd0, hcode, hI2⟩ := hpost
  obtain rfl : v = none := hd0
  show yW o (S') 404 [(5, .int (nI (c))), (4, .int (nI (i))), (3, .ref (o.G.ad (31))), (2, .ref (o.G.ad (24))), (1, .ref (o.G.ad (0))), (0, .ref (b))] []
  refine y_aload_n (pc' := 405) hB dc_L_law_404 rfl rfl 3 rfl ?_
  refine y_gV (c := 24) (ci := 4) (As := []) (rest := []) (pc' := 408) hB (hLw.2.2.1 _ _ (by decide) (by decide)) hR (ct_M_thrown o.l o.G S') mm_M_thrown q_664 q_665 q_666 (by decide) rfl rfl dc_L_law_405 rfl rfl rfl (Nat.le_of_ble_eq_true rfl) (fun v S' hpost => ?_)
  obtain ⟨rfl, hSS⟩ := hpost
  subst hSS
  show yW o (S') 408 [(5, .int (nI (c))), (4, .int (nI (i))), (3, .ref (o.G.ad (31))), (2, .ref (o.G.ad (24))), (1, .ref (o.G.ad (0))), (0, .ref (b))] [.int (gF S' 24 0)]
  refine y_topi (y := nI (c)) (hcode) ?_
  refine y_iload (pc' := 410) hB dc_L_law_408 rfl 0 rfl ?_
  refine n_icmp_eq (pc' := 413) (tg := 415) hB dc_L_law_410 rfl rfl (by omega) (by omega) (fun b2 => ?_) (fun b2 => ?_)
  · refine y_goto (tg := 1600) hB dc_L_law_415 rfl ?_
    refine y_sub [1, 2, 3, 4, 5] rfl ?_
    exact kk _ hI2
  · omega
set_option maxHeartbeats 4000000 in
set_option maxRecDepth 100000 in
theorem lg_cut {o : YO} {b L : Nat} {xs : Nat → Int32} (hLw : yLw o b L xs) (hR : yRm o 1 6) (i : Nat) (hi : i + 7 ≤ L) (S : YS) (hI : yInv S) (kk : ∀ S2 : YS, yInv S2 → yW (yat o (o.cells + 1) (o.slots + 6)) S2 1600 [(4, .int (nI (i))), (3, .ref (o.G.ad (31))), (2, .ref (o.G.ad (24))), (1, .ref (o.G.ad (0))), (0, .ref (b))] []) : yW o S 370 [(4, .int (nI (i))), (3, .ref (o.G.ad (31))), (2, .ref (o.G.ad (24))), (1, .ref (o.G.ad (0))), (0, .ref (b))] [] := by
  have hB := hLw.1
  have hm := hLw.2.1
  have hL := hLw.2.2.2.2.2.2.1
  refine y_aload_n (pc' := 371) hB dc_L_law_370 rfl rfl 3 rfl ?_
  refine y_aload_n (pc' := 372) hB dc_L_law_371 rfl rfl 4 rfl ?_
  refine y_iload (pc' := 374) hB dc_L_law_372 rfl 0 rfl ?_
  refine y_iconst (v := nI 1) (pc' := 375) hB dc_L_law_374 rfl rfl ?_
  refine n_iadd (x := i) (y := 1) (pc' := 376) hB dc_L_law_375 rfl ?_
  refine y_sld (j := i + 1) (pc' := 377) hLw dc_L_law_376 rfl (by omega) ?_
  refine y_aload_n (pc' := 378) hB dc_L_law_377 rfl rfl 4 rfl ?_
  refine y_iload (pc' := 380) hB dc_L_law_378 rfl 0 rfl ?_
  refine y_iconst (v := nI 2) (pc' := 381) hB dc_L_law_380 rfl rfl ?_
  refine n_iadd (x := i) (y := 2) (pc' := 382) hB dc_L_law_381 rfl ?_
  refine y_sld (j := i + 2) (pc' := 383) hLw dc_L_law_382 rfl (by omega) ?_
  obtain ⟨c, P, hc4, hH, hM⟩ := duo_cut o.l hLw.2.2.2.2.2.2.2 o.G S hI (xs (i + 1)) (xs (i + 2))
  refine y_hS (k := 3) (As := [.ref (o.G.ad (0)), .int (xs (i + 1)), .int (xs (i + 2))]) (rest := []) (pc' := 386) hB (hLw.2.2.1 _ _ (by omega) (by decide)) hR hH q_270 q_0 ⟨by decide, by decide⟩ (by decide +kernel) q_268 q_269 dc_L_law_383 rfl rfl rfl (Nat.le_of_ble_eq_true rfl) (fun v S1 hpost => ?_)
  obtain ⟨rfl, hP⟩ := hpost
  obtain ⟨lev, hlev, hC⟩ := hM S1 hP
  exact lh_cut (o := (yat o (o.cells + 1) (o.slots + 6))) hLw ⟨hR.1, hR.2⟩ i hi S1 c hc4 lev hlev hC kk
set_option maxHeartbeats 4000000 in
set_option maxRecDepth 100000 in
theorem lh_swap {o : YO} {b L : Nat} {xs : Nat → Int32} (hLw : yLw o b L xs) (hR : yRm o 0 0) (i : Nat) (hi : i + 7 ≤ L) (S1 : YS) (c : Nat) (hc4 : c < 4) (lev : Nat) (hlev : lev ≤ 30) (H : yC o.l mn_M_swap mb_M_swap 9 none lev o.G [.ref (o.G.ad (24)), .int (xs (i + 1)), .int (xs (i + 2)), .int (xs (i + 3))] S1 (fun v S2 => dV v (gL S2 31 0) c ∧ gF S2 24 0 = nI c ∧ yInv S2)) (kk : ∀ S2 : YS, yInv S2 → yW o S2 1600 [(4, .int (nI (i))), (3, .ref (o.G.ad (31))), (2, .ref (o.G.ad (24))), (1, .ref (o.G.ad (0))), (0, .ref (b))] []) : yW o S1 440 [(4, .int (nI (i))), (3, .ref (o.G.ad (31))), (2, .ref (o.G.ad (24))), (1, .ref (o.G.ad (0))), (0, .ref (b))] [.int (nI c)] := by
  have hB := hLw.1
  have hm := hLw.2.1
  have hL := hLw.2.2.2.2.2.2.1
  refine y_istore (pc' := 442) (lv' := [(5, .int (nI (c))), (4, .int (nI (i))), (3, .ref (o.G.ad (31))), (2, .ref (o.G.ad (24))), (1, .ref (o.G.ad (0))), (0, .ref (b))]) hB hm dc_L_law_440 rfl (by decide) rfl ?_
  refine y_aload_n (pc' := 443) hB dc_L_law_442 rfl rfl 3 rfl ?_
  refine y_aload_n (pc' := 444) hB dc_L_law_443 rfl rfl 5 rfl ?_
  refine y_iload (pc' := 446) hB dc_L_law_444 rfl 1 rfl ?_
  refine y_iconst (v := nI 1) (pc' := 447) hB dc_L_law_446 rfl rfl ?_
  refine n_iadd (x := i) (y := 1) (pc' := 448) hB dc_L_law_447 rfl ?_
  refine y_sld (j := i + 1) (pc' := 449) hLw dc_L_law_448 rfl (by omega) ?_
  refine y_aload_n (pc' := 450) hB dc_L_law_449 rfl rfl 5 rfl ?_
  refine y_iload (pc' := 452) hB dc_L_law_450 rfl 1 rfl ?_
  refine y_iconst (v := nI 2) (pc' := 453) hB dc_L_law_452 rfl rfl ?_
  refine n_iadd (x := i) (y := 2) (pc' := 454) hB dc_L_law_453 rfl ?_
  refine y_sld (j := i + 2) (pc' := 455) hLw dc_L_law_454 rfl (by omega) ?_
  refine y_aload_n (pc' := 456) hB dc_L_law_455 rfl rfl 5 rfl ?_
  refine y_iload (pc' := 458) hB dc_L_law_456 rfl 1 rfl ?_
  refine y_iconst (v := nI 3) (pc' := 459) hB dc_L_law_458 rfl rfl ?_
  refine n_iadd (x := i) (y := 3) (pc' := 460) hB dc_L_law_459 rfl ?_
  refine y_sld (j := i + 3) (pc' := 461) hLw dc_L_law_460 rfl (by omega) ?_
  refine y_gV (c := 24) (ci := 4) (As := [.int (xs (i + 1)), .int (xs (i + 2)), .int (xs (i + 3))]) (rest := []) (pc' := 464) hB (hLw.2.2.1 _ _ (by omega) (by decide)) hR (H) mm_M_swap q_688 q_689 q_690 (by decide) rfl rfl dc_L_law_461 rfl rfl rfl (Nat.le_of_ble_eq_true rfl) (fun v S' hpost => ?_)
  obtain ⟨hd0, hcode, hI2⟩ := hpost
  obtain rfl : v = none := hd0
  show yW o (S') 464 [(5, .int (nI (c))), (4, .int (nI (i))), (3, .ref (o.G.ad (31))), (2, .ref (o.G.ad (24))), (1, .ref (o.G.ad (0))), (0, .ref (b))] []
  refine y_aload_n (pc' := 465) hB dc_L_law_464 rfl rfl 3 rfl ?_
  refine y_gV (c := 24) (ci := 4) (As := []) (rest := []) (pc' := 468) hB (hLw.2.2.1 _ _ (by decide) (by decide)) hR (ct_M_thrown o.l o.G S') mm_M_thrown q_664 q_665 q_666 (by decide) rfl rfl dc_L_law_465 rfl rfl rfl (Nat.le_of_ble_eq_true rfl) (fun v S' hpost => ?_)
  obtain ⟨rfl, hSS⟩ := hpost
  subst hSS
  show yW o (S') 468 [(5, .int (nI (c))), (4, .int (nI (i))), (3, .ref (o.G.ad (31))), (2, .ref (o.G.ad (24))), (1, .ref (o.G.ad (0))), (0, .ref (b))] [.int (gF S' 24 0)]
  refine y_topi (y := nI (c)) (hcode) ?_
  refine y_iload (pc' := 470) hB dc_L_law_468 rfl 0 rfl ?_
  refine n_icmp_eq (pc' := 473) (tg := 475) hB dc_L_law_470 rfl rfl (by omega) (by omega) (fun b2 => ?_) (fun b2 => ?_)
  · refine y_goto (tg := 1600) hB dc_L_law_475 rfl ?_
    refine y_sub [1, 2, 3, 4, 5] rfl ?_
    exact kk _ hI2
  · omega
set_option maxHeartbeats 4000000 in
set_option maxRecDepth 100000 in
theorem lg_swap {o : YO} {b L : Nat} {xs : Nat → Int32} (hLw : yLw o b L xs) (hR : yRm o 1 6) (i : Nat) (hi : i + 7 ≤ L) (S : YS) (hI : yInv S) (kk : ∀ S2 : YS, yInv S2 → yW (yat o (o.cells + 1) (o.slots + 6)) S2 1600 [(4, .int (nI (i))), (3, .ref (o.G.ad (31))), (2, .ref (o.G.ad (24))), (1, .ref (o.G.ad (0))), (0, .ref (b))] []) : yW o S 418 [(4, .int (nI (i))), (3, .ref (o.G.ad (31))), (2, .ref (o.G.ad (24))), (1, .ref (o.G.ad (0))), (0, .ref (b))] [] := by
  have hB := hLw.1
  have hm := hLw.2.1
  have hL := hLw.2.2.2.2.2.2.1
  refine y_aload_n (pc' := 419) hB dc_L_law_418 rfl rfl 3 rfl ?_
  refine y_aload_n (pc' := 420) hB dc_L_law_419 rfl rfl 4 rfl ?_
  refine y_iload (pc' := 422) hB dc_L_law_420 rfl 0 rfl ?_
  refine y_iconst (v := nI 1) (pc' := 423) hB dc_L_law_422 rfl rfl ?_
  refine n_iadd (x := i) (y := 1) (pc' := 424) hB dc_L_law_423 rfl ?_
  refine y_sld (j := i + 1) (pc' := 425) hLw dc_L_law_424 rfl (by omega) ?_
  refine y_aload_n (pc' := 426) hB dc_L_law_425 rfl rfl 4 rfl ?_
  refine y_iload (pc' := 428) hB dc_L_law_426 rfl 0 rfl ?_
  refine y_iconst (v := nI 2) (pc' := 429) hB dc_L_law_428 rfl rfl ?_
  refine n_iadd (x := i) (y := 2) (pc' := 430) hB dc_L_law_429 rfl ?_
  refine y_sld (j := i + 2) (pc' := 431) hLw dc_L_law_430 rfl (by omega) ?_
  refine y_aload_n (pc' := 432) hB dc_L_law_431 rfl rfl 4 rfl ?_
  refine y_iload (pc' := 434) hB dc_L_law_432 rfl 0 rfl ?_
  refine y_iconst (v := nI 3) (pc' := 435) hB dc_L_law_434 rfl rfl ?_
  refine n_iadd (x := i) (y := 3) (pc' := 436) hB dc_L_law_435 rfl ?_
  refine y_sld (j := i + 3) (pc' := 437) hLw dc_L_law_436 rfl (by omega) ?_
  obtain ⟨c, P, hc4, hH, hM⟩ := duo_swap o.l hLw.2.2.2.2.2.2.2 o.G S hI (xs (i + 1)) (xs (i + 2)) (xs (i + 3))
  refine y_hS (k := 4) (As := [.ref (o.G.ad (0)), .int (xs (i + 1)), .int (xs (i + 2)), .int (xs (i + 3))]) (rest := []) (pc' := 440) hB (hLw.2.2.1 _ _ (by omega) (by decide)) hR hH q_278 q_0 ⟨by decide, by decide⟩ (by decide +kernel) q_276 q_277 dc_L_law_437 rfl rfl rfl (Nat.le_of_ble_eq_true rfl) (fun v S1 hpost => ?_)
  obtain ⟨rfl, hP⟩ := hpost
  obtain ⟨lev, hlev, hC⟩ := hM S1 hP
  exact lh_swap (o := (yat o (o.cells + 1) (o.slots + 6))) hLw ⟨hR.1, hR.2⟩ i hi S1 c hc4 lev hlev hC kk
