/-! ===== the law's 48 cases (printed by gen/law.py) ===== -/
set_option maxRecDepth 100000
section LC
variable {E : zE} {D : va_G} {tA : Nat → ClassId} {p : Program} {l : Launch} {e : Env} {s : State} {m : MethodId} {below : List Frame} {meth : Method} {c : Code} {b L : Nat} {xs : Nat → Int32} {adC adM : Nat → Nat} {Q : State → Prop} {F4 : Nat → Int32} {G4 : Nat → Nat → Int32} {F : Nat → Nat → Int32} {N : Nat → Nat → Int64} {G : Nat → Nat → Int32}
theorem LC_0 (C : zl_C E D tA p s m meth c b L xs) (X : zl_G E s adC adM) {k0 : Nat} (hk : ∀ k, k < 6 → k0 + k < L) (hL : L ≤ 3072) (R : jR F4 G4 F N G) (kk : ∀ (F4 : Nat → Int32) (G4 : Nat → Nat → Int32) (F : Nat → Nat → Int32) (N : Nat → Nat → Int64) (G : Nat → Nat → Int32), jR F4 G4 F N G → Lj D tA p l e s m below meth c b adC adM Q 1535 k0 [] (rC F N G) (rM F4 G4)) : Lj D tA p l e s m below meth c b adC adM Q 240 k0 [] (rC F N G) (rM F4 G4) := by
  obtain ⟨v, F4', G4', F', N', G', hm, hc, R2⟩ := P_net R (xs (k0 + 1)) (xs (k0 + 2))
  refine lj_a1 C dL_240 ?_
  refine lj_arg C (k := 1) (hk 1 (by decide)) hL dL_241 dL_242 dL_243 dL_244 dL_245 (by decide) ?_
  refine lj_arg C (k := 2) (hk 2 (by decide)) hL dL_246 dL_247 dL_248 dL_249 dL_250 (by decide) ?_
  refine lj_callC (as := [.int (xs (k0 + 1)), .int (xs (k0 + 2))]) C X dL_251 vX3_net (z_in (z_t1 166 (by decide +kernel)) rfl) (by decide) (Nat.le_of_ble_eq_true rfl) (fun _ => rfl) (fun _ => rfl) hc rfl rfl rfl rfl ?_
  refine lj_a2 C dL_254 ?_
  refine lj_arg C (k := 1) (hk 1 (by decide)) hL dL_255 dL_256 dL_257 dL_258 dL_259 (by decide) ?_
  refine lj_arg C (k := 2) (hk 2 (by decide)) hL dL_260 dL_261 dL_262 dL_263 dL_264 (by decide) ?_
  refine lj_callM (as := [.int (xs (k0 + 1)), .int (xs (k0 + 2))]) C X dL_265 vX4_net (z_in (z_t4 82 (by decide +kernel)) rfl) (by decide) (Nat.le_of_ble_eq_true rfl) (fun _ => rfl) (fun _ => rfl) hm rfl rfl rfl rfl ?_
  exact lj_eq C (tgt := 1535) dL_268 (by decide) (kk _ _ _ _ _ R2)
theorem LC_1 (C : zl_C E D tA p s m meth c b L xs) (X : zl_G E s adC adM) {k0 : Nat} (hk : ∀ k, k < 6 → k0 + k < L) (hL : L ≤ 3072) (R : jR F4 G4 F N G) (kk : ∀ (F4 : Nat → Int32) (G4 : Nat → Nat → Int32) (F : Nat → Nat → Int32) (N : Nat → Nat → Int64) (G : Nat → Nat → Int32), jR F4 G4 F N G → Lj D tA p l e s m below meth c b adC adM Q 1535 k0 [] (rC F N G) (rM F4 G4)) : Lj D tA p l e s m below meth c b adC adM Q 273 k0 [] (rC F N G) (rM F4 G4) := by
  obtain ⟨v, F4', G4', F', N', G', hm, hc, R2⟩ := P_thick R (xs (k0 + 1)) (xs (k0 + 2))
  refine lj_a1 C dL_273 ?_
  refine lj_arg C (k := 1) (hk 1 (by decide)) hL dL_274 dL_275 dL_276 dL_277 dL_278 (by decide) ?_
  refine lj_arg C (k := 2) (hk 2 (by decide)) hL dL_279 dL_280 dL_281 dL_282 dL_283 (by decide) ?_
  refine lj_callC (as := [.int (xs (k0 + 1)), .int (xs (k0 + 2))]) C X dL_284 vX3_thick (z_in (z_t1 190 (by decide +kernel)) rfl) (by decide) (Nat.le_of_ble_eq_true rfl) (fun _ => rfl) (fun _ => rfl) hc rfl rfl rfl rfl ?_
  refine lj_a2 C dL_287 ?_
  refine lj_arg C (k := 1) (hk 1 (by decide)) hL dL_288 dL_289 dL_290 dL_291 dL_292 (by decide) ?_
  refine lj_arg C (k := 2) (hk 2 (by decide)) hL dL_293 dL_294 dL_295 dL_296 dL_297 (by decide) ?_
  refine lj_callM (as := [.int (xs (k0 + 1)), .int (xs (k0 + 2))]) C X dL_298 vX4_thick (z_in (z_t4 101 (by decide +kernel)) rfl) (by decide) (Nat.le_of_ble_eq_true rfl) (fun _ => rfl) (fun _ => rfl) hm rfl rfl rfl rfl ?_
  exact lj_eq C (tgt := 1535) dL_301 (by decide) (kk _ _ _ _ _ R2)
theorem LC_2 (C : zl_C E D tA p s m meth c b L xs) (X : zl_G E s adC adM) {k0 : Nat} (hk : ∀ k, k < 6 → k0 + k < L) (hL : L ≤ 3072) (R : jR F4 G4 F N G) (kk : ∀ (F4 : Nat → Int32) (G4 : Nat → Nat → Int32) (F : Nat → Nat → Int32) (N : Nat → Nat → Int64) (G : Nat → Nat → Int32), jR F4 G4 F N G → Lj D tA p l e s m below meth c b adC adM Q 1535 k0 [] (rC F N G) (rM F4 G4)) : Lj D tA p l e s m below meth c b adC adM Q 306 k0 [] (rC F N G) (rM F4 G4) := by
  obtain ⟨v, F4', G4', F', N', G', hm, hc, R2⟩ := P_cell R (xs (k0 + 1)) (xs (k0 + 2))
  refine lj_a1 C dL_306 ?_
  refine lj_arg C (k := 1) (hk 1 (by decide)) hL dL_307 dL_308 dL_309 dL_310 dL_311 (by decide) ?_
  refine lj_arg C (k := 2) (hk 2 (by decide)) hL dL_312 dL_313 dL_314 dL_315 dL_316 (by decide) ?_
  refine lj_callC (as := [.int (xs (k0 + 1)), .int (xs (k0 + 2))]) C X dL_317 vX3_cell (z_in (z_t1 194 (by decide +kernel)) rfl) (by decide) (Nat.le_of_ble_eq_true rfl) (fun _ => rfl) (fun _ => rfl) hc rfl rfl rfl rfl ?_
  refine lj_a2 C dL_320 ?_
  refine lj_arg C (k := 1) (hk 1 (by decide)) hL dL_321 dL_322 dL_323 dL_324 dL_325 (by decide) ?_
  refine lj_arg C (k := 2) (hk 2 (by decide)) hL dL_326 dL_327 dL_328 dL_329 dL_330 (by decide) ?_
  refine lj_callM (as := [.int (xs (k0 + 1)), .int (xs (k0 + 2))]) C X dL_331 vX4_cell (z_in (z_t4 188 (by decide +kernel)) rfl) (by decide) (Nat.le_of_ble_eq_true rfl) (fun _ => rfl) (fun _ => rfl) hm rfl rfl rfl rfl ?_
  exact lj_eq C (tgt := 1535) dL_334 (by decide) (kk _ _ _ _ _ R2)
theorem LC_3 (C : zl_C E D tA p s m meth c b L xs) (X : zl_G E s adC adM) {k0 : Nat} (hk : ∀ k, k < 6 → k0 + k < L) (hL : L ≤ 3072) (R : jR F4 G4 F N G) (kk : ∀ (F4 : Nat → Int32) (G4 : Nat → Nat → Int32) (F : Nat → Nat → Int32) (N : Nat → Nat → Int64) (G : Nat → Nat → Int32), jR F4 G4 F N G → Lj D tA p l e s m below meth c b adC adM Q 1535 k0 [] (rC F N G) (rM F4 G4)) : Lj D tA p l e s m below meth c b adC adM Q 339 k0 [] (rC F N G) (rM F4 G4) := by
  obtain ⟨v, F4', G4', F', N', G', hm, hc, R2⟩ := P_hunter R (xs (k0 + 1)) (xs (k0 + 2))
  refine lj_a1 C dL_339 ?_
  refine lj_arg C (k := 1) (hk 1 (by decide)) hL dL_340 dL_341 dL_342 dL_343 dL_344 (by decide) ?_
  refine lj_arg C (k := 2) (hk 2 (by decide)) hL dL_345 dL_346 dL_347 dL_348 dL_349 (by decide) ?_
  refine lj_callC (as := [.int (xs (k0 + 1)), .int (xs (k0 + 2))]) C X dL_350 vX3_hunter (z_in (z_t1 220 (by decide +kernel)) rfl) (by decide) (Nat.le_of_ble_eq_true rfl) (fun _ => rfl) (fun _ => rfl) hc rfl rfl rfl rfl ?_
  refine lj_a2 C dL_353 ?_
  refine lj_arg C (k := 1) (hk 1 (by decide)) hL dL_354 dL_355 dL_356 dL_357 dL_358 (by decide) ?_
  refine lj_arg C (k := 2) (hk 2 (by decide)) hL dL_359 dL_360 dL_361 dL_362 dL_363 (by decide) ?_
  refine lj_callM (as := [.int (xs (k0 + 1)), .int (xs (k0 + 2))]) C X dL_364 vX4_hunter (z_in (z_t4 105 (by decide +kernel)) rfl) (by decide) (Nat.le_of_ble_eq_true rfl) (fun _ => rfl) (fun _ => rfl) hm rfl rfl rfl rfl ?_
  exact lj_eq C (tgt := 1535) dL_367 (by decide) (kk _ _ _ _ _ R2)
theorem LC_4 (C : zl_C E D tA p s m meth c b L xs) (X : zl_G E s adC adM) {k0 : Nat} (hk : ∀ k, k < 6 → k0 + k < L) (hL : L ≤ 3072) (R : jR F4 G4 F N G) (kk : ∀ (F4 : Nat → Int32) (G4 : Nat → Nat → Int32) (F : Nat → Nat → Int32) (N : Nat → Nat → Int64) (G : Nat → Nat → Int32), jR F4 G4 F N G → Lj D tA p l e s m below meth c b adC adM Q 1535 k0 [] (rC F N G) (rM F4 G4)) : Lj D tA p l e s m below meth c b adC adM Q 372 k0 [] (rC F N G) (rM F4 G4) := by
  obtain ⟨v, F4', G4', F', N', G', hm, hc, R2⟩ := P_fear R (xs (k0 + 1))
  refine lj_a1 C dL_372 ?_
  refine lj_arg C (k := 1) (hk 1 (by decide)) hL dL_373 dL_374 dL_375 dL_376 dL_377 (by decide) ?_
  refine lj_callC (as := [.int (xs (k0 + 1))]) C X dL_378 vX3_fear (z_in (z_t1 227 (by decide +kernel)) rfl) (by decide) (Nat.le_of_ble_eq_true rfl) (fun _ => rfl) (fun _ => rfl) hc rfl rfl rfl rfl ?_
  refine lj_a2 C dL_381 ?_
  refine lj_arg C (k := 1) (hk 1 (by decide)) hL dL_382 dL_383 dL_384 dL_385 dL_386 (by decide) ?_
  refine lj_callM (as := [.int (xs (k0 + 1))]) C X dL_387 vX4_fear (z_in (z_t4 112 (by decide +kernel)) rfl) (by decide) (Nat.le_of_ble_eq_true rfl) (fun _ => rfl) (fun _ => rfl) hm rfl rfl rfl rfl ?_
  exact lj_eq C (tgt := 1535) dL_390 (by decide) (kk _ _ _ _ _ R2)
theorem LC_5 (C : zl_C E D tA p s m meth c b L xs) (X : zl_G E s adC adM) {k0 : Nat} (hk : ∀ k, k < 6 → k0 + k < L) (hL : L ≤ 3072) (R : jR F4 G4 F N G) (kk : ∀ (F4 : Nat → Int32) (G4 : Nat → Nat → Int32) (F : Nat → Nat → Int32) (N : Nat → Nat → Int64) (G : Nat → Nat → Int32), jR F4 G4 F N G → Lj D tA p l e s m below meth c b adC adM Q 1535 k0 [] (rC F N G) (rM F4 G4)) : Lj D tA p l e s m below meth c b adC adM Q 395 k0 [] (rC F N G) (rM F4 G4) := by
  obtain ⟨v, F4', G4', F', N', G', hm, hc, R2⟩ := P_bell R (xs (k0 + 1)) (xs (k0 + 2))
  refine lj_a1 C dL_395 ?_
  refine lj_arg C (k := 1) (hk 1 (by decide)) hL dL_396 dL_397 dL_398 dL_399 dL_400 (by decide) ?_
  refine lj_arg C (k := 2) (hk 2 (by decide)) hL dL_401 dL_402 dL_403 dL_404 dL_405 (by decide) ?_
  refine lj_callC (as := [.int (xs (k0 + 1)), .int (xs (k0 + 2))]) C X dL_406 vX3_bell (z_in (z_t1 231 (by decide +kernel)) rfl) (by decide) (Nat.le_of_ble_eq_true rfl) (fun _ => rfl) (fun _ => rfl) hc rfl rfl rfl rfl ?_
  refine lj_a2 C dL_409 ?_
  refine lj_arg C (k := 1) (hk 1 (by decide)) hL dL_410 dL_411 dL_412 dL_413 dL_414 (by decide) ?_
  refine lj_arg C (k := 2) (hk 2 (by decide)) hL dL_415 dL_416 dL_417 dL_418 dL_419 (by decide) ?_
  refine lj_callM (as := [.int (xs (k0 + 1)), .int (xs (k0 + 2))]) C X dL_420 vX4_bell (z_in (z_t4 116 (by decide +kernel)) rfl) (by decide) (Nat.le_of_ble_eq_true rfl) (fun _ => rfl) (fun _ => rfl) hm rfl rfl rfl rfl ?_
  exact lj_eq C (tgt := 1535) dL_423 (by decide) (kk _ _ _ _ _ R2)
theorem LC_6 (C : zl_C E D tA p s m meth c b L xs) (X : zl_G E s adC adM) {k0 : Nat} (hk : ∀ k, k < 6 → k0 + k < L) (hL : L ≤ 3072) (R : jR F4 G4 F N G) (kk : ∀ (F4 : Nat → Int32) (G4 : Nat → Nat → Int32) (F : Nat → Nat → Int32) (N : Nat → Nat → Int64) (G : Nat → Nat → Int32), jR F4 G4 F N G → Lj D tA p l e s m below meth c b adC adM Q 1535 k0 [] (rC F N G) (rM F4 G4)) : Lj D tA p l e s m below meth c b adC adM Q 428 k0 [] (rC F N G) (rM F4 G4) := by
  obtain ⟨v, F4', G4', F', N', G', hm, hc, R2⟩ := P_of R (xs (k0 + 1)) (xs (k0 + 2))
  refine lj_a1 C dL_428 ?_
  refine lj_arg C (k := 1) (hk 1 (by decide)) hL dL_429 dL_430 dL_431 dL_432 dL_433 (by decide) ?_
  refine lj_arg C (k := 2) (hk 2 (by decide)) hL dL_434 dL_435 dL_436 dL_437 dL_438 (by decide) ?_
  refine lj_callC (as := [.int (xs (k0 + 1)), .int (xs (k0 + 2))]) C X dL_439 vX3_of (z_in (z_t2 2 (by decide +kernel)) rfl) (by decide) (Nat.le_of_ble_eq_true rfl) (fun _ => rfl) (fun _ => rfl) hc rfl rfl rfl rfl ?_
  refine lj_a2 C dL_442 ?_
  refine lj_arg C (k := 1) (hk 1 (by decide)) hL dL_443 dL_444 dL_445 dL_446 dL_447 (by decide) ?_
  refine lj_arg C (k := 2) (hk 2 (by decide)) hL dL_448 dL_449 dL_450 dL_451 dL_452 (by decide) ?_
  refine lj_callM (as := [.int (xs (k0 + 1)), .int (xs (k0 + 2))]) C X dL_453 vX4_of (z_in (z_t4 131 (by decide +kernel)) rfl) (by decide) (Nat.le_of_ble_eq_true rfl) (fun _ => rfl) (fun _ => rfl) hm rfl rfl rfl rfl ?_
  exact lj_eq C (tgt := 1535) dL_456 (by decide) (kk _ _ _ _ _ R2)
theorem LC_7 (C : zl_C E D tA p s m meth c b L xs) (X : zl_G E s adC adM) {k0 : Nat} (hk : ∀ k, k < 6 → k0 + k < L) (hL : L ≤ 3072) (R : jR F4 G4 F N G) (kk : ∀ (F4 : Nat → Int32) (G4 : Nat → Nat → Int32) (F : Nat → Nat → Int32) (N : Nat → Nat → Int64) (G : Nat → Nat → Int32), jR F4 G4 F N G → Lj D tA p l e s m below meth c b adC adM Q 1535 k0 [] (rC F N G) (rM F4 G4)) : Lj D tA p l e s m below meth c b adC adM Q 461 k0 [] (rC F N G) (rM F4 G4) := by
  obtain ⟨v, F4', G4', F', N', G', hm, hc, R2⟩ := P_change R (xs (k0 + 1)) (xs (k0 + 2)) (xs (k0 + 3))
  refine lj_a1 C dL_461 ?_
  refine lj_arg C (k := 1) (hk 1 (by decide)) hL dL_462 dL_463 dL_464 dL_465 dL_466 (by decide) ?_
  refine lj_arg C (k := 2) (hk 2 (by decide)) hL dL_467 dL_468 dL_469 dL_470 dL_471 (by decide) ?_
  refine lj_arg C (k := 3) (hk 3 (by decide)) hL dL_472 dL_473 dL_474 dL_475 dL_476 (by decide) ?_
  refine lj_callC (as := [.int (xs (k0 + 1)), .int (xs (k0 + 2)), .int (xs (k0 + 3))]) C X dL_477 vX3_change (z_in (z_t2 45 (by decide +kernel)) rfl) (by decide) (Nat.le_of_ble_eq_true rfl) (fun _ => rfl) (fun _ => rfl) hc rfl rfl rfl rfl ?_
  refine lj_a2 C dL_480 ?_
  refine lj_arg C (k := 1) (hk 1 (by decide)) hL dL_481 dL_482 dL_483 dL_484 dL_485 (by decide) ?_
  refine lj_arg C (k := 2) (hk 2 (by decide)) hL dL_486 dL_487 dL_488 dL_489 dL_490 (by decide) ?_
  refine lj_arg C (k := 3) (hk 3 (by decide)) hL dL_491 dL_492 dL_493 dL_494 dL_495 (by decide) ?_
  refine lj_callM (as := [.int (xs (k0 + 1)), .int (xs (k0 + 2)), .int (xs (k0 + 3))]) C X dL_496 vX4_change (z_in (z_t4 177 (by decide +kernel)) rfl) (by decide) (Nat.le_of_ble_eq_true rfl) (fun _ => rfl) (fun _ => rfl) hm rfl rfl rfl rfl ?_
  exact lj_eq C (tgt := 1535) dL_499 (by decide) (kk _ _ _ _ _ R2)
theorem LC_8 (C : zl_C E D tA p s m meth c b L xs) (X : zl_G E s adC adM) {k0 : Nat} (hk : ∀ k, k < 6 → k0 + k < L) (hL : L ≤ 3072) (R : jR F4 G4 F N G) (kk : ∀ (F4 : Nat → Int32) (G4 : Nat → Nat → Int32) (F : Nat → Nat → Int32) (N : Nat → Nat → Int64) (G : Nat → Nat → Int32), jR F4 G4 F N G → Lj D tA p l e s m below meth c b adC adM Q 1535 k0 [] (rC F N G) (rM F4 G4)) : Lj D tA p l e s m below meth c b adC adM Q 504 k0 [] (rC F N G) (rM F4 G4) := by
  obtain ⟨v, F4', G4', F', N', G', hm, hc, R2⟩ := P_worth R (xs (k0 + 1)) (xs (k0 + 2))
  refine lj_a1 C dL_504 ?_
  refine lj_arg C (k := 1) (hk 1 (by decide)) hL dL_505 dL_506 dL_507 dL_508 dL_509 (by decide) ?_
  refine lj_arg C (k := 2) (hk 2 (by decide)) hL dL_510 dL_511 dL_512 dL_513 dL_514 (by decide) ?_
  refine lj_callC (as := [.int (xs (k0 + 1)), .int (xs (k0 + 2))]) C X dL_515 vX3_worth (z_in (z_t2 62 (by decide +kernel)) rfl) (by decide) (Nat.le_of_ble_eq_true rfl) (fun _ => rfl) (fun _ => rfl) hc rfl rfl rfl rfl ?_
  refine lj_a2 C dL_518 ?_
  refine lj_arg C (k := 1) (hk 1 (by decide)) hL dL_519 dL_520 dL_521 dL_522 dL_523 (by decide) ?_
  refine lj_arg C (k := 2) (hk 2 (by decide)) hL dL_524 dL_525 dL_526 dL_527 dL_528 (by decide) ?_
  refine lj_callM (as := [.int (xs (k0 + 1)), .int (xs (k0 + 2))]) C X dL_529 vX4_worth (z_in (z_t4 184 (by decide +kernel)) rfl) (by decide) (Nat.le_of_ble_eq_true rfl) (fun _ => rfl) (fun _ => rfl) hm rfl rfl rfl rfl ?_
  exact lj_eq C (tgt := 1535) dL_532 (by decide) (kk _ _ _ _ _ R2)
theorem LC_9 (C : zl_C E D tA p s m meth c b L xs) (X : zl_G E s adC adM) {k0 : Nat} (hk : ∀ k, k < 6 → k0 + k < L) (hL : L ≤ 3072) (R : jR F4 G4 F N G) (kk : ∀ (F4 : Nat → Int32) (G4 : Nat → Nat → Int32) (F : Nat → Nat → Int32) (N : Nat → Nat → Int64) (G : Nat → Nat → Int32), jR F4 G4 F N G → Lj D tA p l e s m below meth c b adC adM Q 1535 k0 [] (rC F N G) (rM F4 G4)) : Lj D tA p l e s m below meth c b adC adM Q 537 k0 [] (rC F N G) (rM F4 G4) := by
  obtain ⟨v, F4', G4', F', N', G', hm, hc, R2⟩ := P_go R (xs (k0 + 1))
  refine lj_a1 C dL_537 ?_
  refine lj_arg C (k := 1) (hk 1 (by decide)) hL dL_538 dL_539 dL_540 dL_541 dL_542 (by decide) ?_
  refine lj_callC (as := [.int (xs (k0 + 1))]) C X dL_543 vX3_go (z_in (z_t2 66 (by decide +kernel)) rfl) (by decide) (Nat.le_of_ble_eq_true rfl) (fun _ => rfl) (fun _ => rfl) hc rfl rfl rfl rfl ?_
  refine lj_a2 C dL_546 ?_
  refine lj_arg C (k := 1) (hk 1 (by decide)) hL dL_547 dL_548 dL_549 dL_550 dL_551 (by decide) ?_
  refine lj_callM (as := [.int (xs (k0 + 1))]) C X dL_552 vX4_go (z_in (z_t4 208 (by decide +kernel)) rfl) (by decide) (Nat.le_of_ble_eq_true rfl) (fun _ => rfl) (fun _ => rfl) hm rfl rfl rfl rfl ?_
  exact lj_eq C (tgt := 1535) dL_555 (by decide) (kk _ _ _ _ _ R2)
theorem LC_10 (C : zl_C E D tA p s m meth c b L xs) (X : zl_G E s adC adM) {k0 : Nat} (hk : ∀ k, k < 6 → k0 + k < L) (hL : L ≤ 3072) (R : jR F4 G4 F N G) (kk : ∀ (F4 : Nat → Int32) (G4 : Nat → Nat → Int32) (F : Nat → Nat → Int32) (N : Nat → Nat → Int64) (G : Nat → Nat → Int32), jR F4 G4 F N G → Lj D tA p l e s m below meth c b adC adM Q 1535 k0 [] (rC F N G) (rM F4 G4)) : Lj D tA p l e s m below meth c b adC adM Q 560 k0 [] (rC F N G) (rM F4 G4) := by
  obtain ⟨v, F4', G4', F', N', G', hm, hc, R2⟩ := P_now R (xs (k0 + 1))
  refine lj_a1 C dL_560 ?_
  refine lj_arg C (k := 1) (hk 1 (by decide)) hL dL_561 dL_562 dL_563 dL_564 dL_565 (by decide) ?_
  refine lj_callC (as := [.int (xs (k0 + 1))]) C X dL_566 vX3_now (z_in (z_t2 84 (by decide +kernel)) rfl) (by decide) (Nat.le_of_ble_eq_true rfl) (fun _ => rfl) (fun _ => rfl) hc rfl rfl rfl rfl ?_
  refine lj_a2 C dL_569 ?_
  refine lj_arg C (k := 1) (hk 1 (by decide)) hL dL_570 dL_571 dL_572 dL_573 dL_574 (by decide) ?_
  refine lj_callM (as := [.int (xs (k0 + 1))]) C X dL_575 vX4_now (z_in (z_t4 233 (by decide +kernel)) rfl) (by decide) (Nat.le_of_ble_eq_true rfl) (fun _ => rfl) (fun _ => rfl) hm rfl rfl rfl rfl ?_
  exact lj_eq C (tgt := 1535) dL_578 (by decide) (kk _ _ _ _ _ R2)
theorem LC_11 (C : zl_C E D tA p s m meth c b L xs) (X : zl_G E s adC adM) {k0 : Nat} (hk : ∀ k, k < 6 → k0 + k < L) (hL : L ≤ 3072) (R : jR F4 G4 F N G) (kk : ∀ (F4 : Nat → Int32) (G4 : Nat → Nat → Int32) (F : Nat → Nat → Int32) (N : Nat → Nat → Int64) (G : Nat → Nat → Int32), jR F4 G4 F N G → Lj D tA p l e s m below meth c b adC adM Q 1535 k0 [] (rC F N G) (rM F4 G4)) : Lj D tA p l e s m below meth c b adC adM Q 583 k0 [] (rC F N G) (rM F4 G4) := by
  obtain ⟨v, F4', G4', F', N', G', hm, hc, R2⟩ := P_loud R (xs (k0 + 1)) (xs (k0 + 2))
  refine lj_a1 C dL_583 ?_
  refine lj_arg C (k := 1) (hk 1 (by decide)) hL dL_584 dL_585 dL_586 dL_587 dL_588 (by decide) ?_
  refine lj_arg C (k := 2) (hk 2 (by decide)) hL dL_589 dL_590 dL_591 dL_592 dL_593 (by decide) ?_
  refine lj_callC (as := [.int (xs (k0 + 1)), .int (xs (k0 + 2))]) C X dL_594 vX3_loud (z_in (z_t2 98 (by decide +kernel)) rfl) (by decide) (Nat.le_of_ble_eq_true rfl) (fun _ => rfl) (fun _ => rfl) hc rfl rfl rfl rfl ?_
  refine lj_a2 C dL_597 ?_
  refine lj_arg C (k := 1) (hk 1 (by decide)) hL dL_598 dL_599 dL_600 dL_601 dL_602 (by decide) ?_
  refine lj_arg C (k := 2) (hk 2 (by decide)) hL dL_603 dL_604 dL_605 dL_606 dL_607 (by decide) ?_
  refine lj_callM (as := [.int (xs (k0 + 1)), .int (xs (k0 + 2))]) C X dL_608 vX4_loud (z_in (z_t5 5 (by decide +kernel)) rfl) (by decide) (Nat.le_of_ble_eq_true rfl) (fun _ => rfl) (fun _ => rfl) hm rfl rfl rfl rfl ?_
  exact lj_eq C (tgt := 1535) dL_611 (by decide) (kk _ _ _ _ _ R2)
theorem LC_12 (C : zl_C E D tA p s m meth c b L xs) (X : zl_G E s adC adM) {k0 : Nat} (hk : ∀ k, k < 6 → k0 + k < L) (hL : L ≤ 3072) (R : jR F4 G4 F N G) (kk : ∀ (F4 : Nat → Int32) (G4 : Nat → Nat → Int32) (F : Nat → Nat → Int32) (N : Nat → Nat → Int64) (G : Nat → Nat → Int32), jR F4 G4 F N G → Lj D tA p l e s m below meth c b adC adM Q 1535 k0 [] (rC F N G) (rM F4 G4)) : Lj D tA p l e s m below meth c b adC adM Q 616 k0 [] (rC F N G) (rM F4 G4) := by
  obtain ⟨v, F4', G4', F', N', G', hm, hc, R2⟩ := P_ahead R (xs (k0 + 1)) (xs (k0 + 2))
  refine lj_a1 C dL_616 ?_
  refine lj_arg C (k := 1) (hk 1 (by decide)) hL dL_617 dL_618 dL_619 dL_620 dL_621 (by decide) ?_
  refine lj_arg C (k := 2) (hk 2 (by decide)) hL dL_622 dL_623 dL_624 dL_625 dL_626 (by decide) ?_
  refine lj_callC (as := [.int (xs (k0 + 1)), .int (xs (k0 + 2))]) C X dL_627 vX3_ahead (z_in (z_t2 104 (by decide +kernel)) rfl) (by decide) (Nat.le_of_ble_eq_true rfl) (fun _ => rfl) (fun _ => rfl) hc rfl rfl rfl rfl ?_
  refine lj_a2 C dL_630 ?_
  refine lj_arg C (k := 1) (hk 1 (by decide)) hL dL_631 dL_632 dL_633 dL_634 dL_635 (by decide) ?_
  refine lj_arg C (k := 2) (hk 2 (by decide)) hL dL_636 dL_637 dL_638 dL_639 dL_640 (by decide) ?_
  refine lj_callM (as := [.int (xs (k0 + 1)), .int (xs (k0 + 2))]) C X dL_641 vX4_ahead (z_in (z_t5 9 (by decide +kernel)) rfl) (by decide) (Nat.le_of_ble_eq_true rfl) (fun _ => rfl) (fun _ => rfl) hm rfl rfl rfl rfl ?_
  exact lj_eq C (tgt := 1535) dL_644 (by decide) (kk _ _ _ _ _ R2)
theorem LC_13 (C : zl_C E D tA p s m meth c b L xs) (X : zl_G E s adC adM) {k0 : Nat} (hk : ∀ k, k < 6 → k0 + k < L) (hL : L ≤ 3072) (R : jR F4 G4 F N G) (kk : ∀ (F4 : Nat → Int32) (G4 : Nat → Nat → Int32) (F : Nat → Nat → Int32) (N : Nat → Nat → Int64) (G : Nat → Nat → Int32), jR F4 G4 F N G → Lj D tA p l e s m below meth c b adC adM Q 1535 k0 [] (rC F N G) (rM F4 G4)) : Lj D tA p l e s m below meth c b adC adM Q 649 k0 [] (rC F N G) (rM F4 G4) := by
  obtain ⟨v, F4', G4', F', N', G', hm, hc, R2⟩ := P_when R (xs (k0 + 1))
  refine lj_a1 C dL_649 ?_
  refine lj_arg C (k := 1) (hk 1 (by decide)) hL dL_650 dL_651 dL_652 dL_653 dL_654 (by decide) ?_
  refine lj_callC (as := [.int (xs (k0 + 1))]) C X dL_655 vX3_when (z_in (z_t2 120 (by decide +kernel)) rfl) (by decide) (Nat.le_of_ble_eq_true rfl) (fun _ => rfl) (fun _ => rfl) hc rfl rfl rfl rfl ?_
  refine lj_a2 C dL_658 ?_
  refine lj_arg C (k := 1) (hk 1 (by decide)) hL dL_659 dL_660 dL_661 dL_662 dL_663 (by decide) ?_
  refine lj_callM (as := [.int (xs (k0 + 1))]) C X dL_664 vX4_when (z_in (z_t5 24 (by decide +kernel)) rfl) (by decide) (Nat.le_of_ble_eq_true rfl) (fun _ => rfl) (fun _ => rfl) hm rfl rfl rfl rfl ?_
  exact lj_eq C (tgt := 1535) dL_667 (by decide) (kk _ _ _ _ _ R2)
theorem LC_14 (C : zl_C E D tA p s m meth c b L xs) (X : zl_G E s adC adM) {k0 : Nat} (hk : ∀ k, k < 6 → k0 + k < L) (hL : L ≤ 3072) (R : jR F4 G4 F N G) (kk : ∀ (F4 : Nat → Int32) (G4 : Nat → Nat → Int32) (F : Nat → Nat → Int32) (N : Nat → Nat → Int64) (G : Nat → Nat → Int32), jR F4 G4 F N G → Lj D tA p l e s m below meth c b adC adM Q 1535 k0 [] (rC F N G) (rM F4 G4)) : Lj D tA p l e s m below meth c b adC adM Q 672 k0 [] (rC F N G) (rM F4 G4) := by
  obtain ⟨v, F4', G4', F', N', G', hm, hc, R2⟩ := P_still R
  refine lj_a1 C dL_672 ?_
  refine lj_callC (as := []) C X dL_673 vX3_still (z_in (z_t2 128 (by decide +kernel)) rfl) (by decide) (Nat.le_of_ble_eq_true rfl) (fun _ => rfl) (fun _ => rfl) hc rfl rfl rfl rfl ?_
  refine lj_a2 C dL_676 ?_
  refine lj_callM (as := []) C X dL_677 vX4_still (z_in (z_t5 38 (by decide +kernel)) rfl) (by decide) (Nat.le_of_ble_eq_true rfl) (fun _ => rfl) (fun _ => rfl) hm rfl rfl rfl rfl ?_
  exact lj_eq C (tgt := 1535) dL_680 (by decide) (kk _ _ _ _ _ R2)
theorem LC_15 (C : zl_C E D tA p s m meth c b L xs) (X : zl_G E s adC adM) {k0 : Nat} (hk : ∀ k, k < 6 → k0 + k < L) (hL : L ≤ 3072) (R : jR F4 G4 F N G) (kk : ∀ (F4 : Nat → Int32) (G4 : Nat → Nat → Int32) (F : Nat → Nat → Int32) (N : Nat → Nat → Int64) (G : Nat → Nat → Int32), jR F4 G4 F N G → Lj D tA p l e s m below meth c b adC adM Q 1535 k0 [] (rC F N G) (rM F4 G4)) : Lj D tA p l e s m below meth c b adC adM Q 685 k0 [] (rC F N G) (rM F4 G4) := by
  obtain ⟨v, F4', G4', F', N', G', hm, hc, R2⟩ := P_caught R (xs (k0 + 1))
  refine lj_a1 C dL_685 ?_
  refine lj_arg C (k := 1) (hk 1 (by decide)) hL dL_686 dL_687 dL_688 dL_689 dL_690 (by decide) ?_
  refine lj_callC (as := [.int (xs (k0 + 1))]) C X dL_691 vX3_caught (z_in (z_t2 132 (by decide +kernel)) rfl) (by decide) (Nat.le_of_ble_eq_true rfl) (fun _ => rfl) (fun _ => rfl) hc rfl rfl rfl rfl ?_
  refine lj_a2 C dL_694 ?_
  refine lj_arg C (k := 1) (hk 1 (by decide)) hL dL_695 dL_696 dL_697 dL_698 dL_699 (by decide) ?_
  refine lj_callM (as := [.int (xs (k0 + 1))]) C X dL_700 vX4_caught (z_in (z_t5 42 (by decide +kernel)) rfl) (by decide) (Nat.le_of_ble_eq_true rfl) (fun _ => rfl) (fun _ => rfl) hm rfl rfl rfl rfl ?_
  exact lj_eq C (tgt := 1535) dL_703 (by decide) (kk _ _ _ _ _ R2)
theorem LC_16 (C : zl_C E D tA p s m meth c b L xs) (X : zl_G E s adC adM) {k0 : Nat} (hk : ∀ k, k < 6 → k0 + k < L) (hL : L ≤ 3072) (R : jR F4 G4 F N G) (kk : ∀ (F4 : Nat → Int32) (G4 : Nat → Nat → Int32) (F : Nat → Nat → Int32) (N : Nat → Nat → Int64) (G : Nat → Nat → Int32), jR F4 G4 F N G → Lj D tA p l e s m below meth c b adC adM Q 1535 k0 [] (rC F N G) (rM F4 G4)) : Lj D tA p l e s m below meth c b adC adM Q 708 k0 [] (rC F N G) (rM F4 G4) := by
  obtain ⟨v, F4', G4', F', N', G', hm, hc, R2⟩ := P_netFor R (xs (k0 + 1))
  refine lj_a1 C dL_708 ?_
  refine lj_arg C (k := 1) (hk 1 (by decide)) hL dL_709 dL_710 dL_711 dL_712 dL_713 (by decide) ?_
  refine lj_callC (as := [.int (xs (k0 + 1))]) C X dL_714 vX3_netFor (z_in (z_t2 136 (by decide +kernel)) rfl) (by decide) (Nat.le_of_ble_eq_true rfl) (fun _ => rfl) (fun _ => rfl) hc rfl rfl rfl rfl ?_
  refine lj_a2 C dL_717 ?_
  refine lj_arg C (k := 1) (hk 1 (by decide)) hL dL_718 dL_719 dL_720 dL_721 dL_722 (by decide) ?_
  refine lj_callM (as := [.int (xs (k0 + 1))]) C X dL_723 vX4_netFor (z_in (z_t5 50 (by decide +kernel)) rfl) (by decide) (Nat.le_of_ble_eq_true rfl) (fun _ => rfl) (fun _ => rfl) hm rfl rfl rfl rfl ?_
  exact lj_eq C (tgt := 1535) dL_726 (by decide) (kk _ _ _ _ _ R2)
theorem LC_17 (C : zl_C E D tA p s m meth c b L xs) (X : zl_G E s adC adM) {k0 : Nat} (hk : ∀ k, k < 6 → k0 + k < L) (hL : L ≤ 3072) (R : jR F4 G4 F N G) (kk : ∀ (F4 : Nat → Int32) (G4 : Nat → Nat → Int32) (F : Nat → Nat → Int32) (N : Nat → Nat → Int64) (G : Nat → Nat → Int32), jR F4 G4 F N G → Lj D tA p l e s m below meth c b adC adM Q 1535 k0 [] (rC F N G) (rM F4 G4)) : Lj D tA p l e s m below meth c b adC adM Q 731 k0 [] (rC F N G) (rM F4 G4) := by
  obtain ⟨v, F4', G4', F', N', G', hm, hc, R2⟩ := P_best R (xs (k0 + 1))
  refine lj_a1 C dL_731 ?_
  refine lj_arg C (k := 1) (hk 1 (by decide)) hL dL_732 dL_733 dL_734 dL_735 dL_736 (by decide) ?_
  refine lj_callC (as := [.int (xs (k0 + 1))]) C X dL_737 vX3_best (z_in (z_t2 141 (by decide +kernel)) rfl) (by decide) (Nat.le_of_ble_eq_true rfl) (fun _ => rfl) (fun _ => rfl) hc rfl rfl rfl rfl ?_
  refine lj_a2 C dL_740 ?_
  refine lj_arg C (k := 1) (hk 1 (by decide)) hL dL_741 dL_742 dL_743 dL_744 dL_745 (by decide) ?_
  refine lj_callM (as := [.int (xs (k0 + 1))]) C X dL_746 vX4_best (z_in (z_t5 58 (by decide +kernel)) rfl) (by decide) (Nat.le_of_ble_eq_true rfl) (fun _ => rfl) (fun _ => rfl) hm rfl rfl rfl rfl ?_
  exact lj_eq C (tgt := 1535) dL_749 (by decide) (kk _ _ _ _ _ R2)
theorem LC_18 (C : zl_C E D tA p s m meth c b L xs) (X : zl_G E s adC adM) {k0 : Nat} (hk : ∀ k, k < 6 → k0 + k < L) (hL : L ≤ 3072) (R : jR F4 G4 F N G) (kk : ∀ (F4 : Nat → Int32) (G4 : Nat → Nat → Int32) (F : Nat → Nat → Int32) (N : Nat → Nat → Int64) (G : Nat → Nat → Int32), jR F4 G4 F N G → Lj D tA p l e s m below meth c b adC adM Q 1535 k0 [] (rC F N G) (rM F4 G4)) : Lj D tA p l e s m below meth c b adC adM Q 754 k0 [] (rC F N G) (rM F4 G4) := by
  obtain ⟨v, F4', G4', F', N', G', hm, hc, R2⟩ := P_drive R (xs (k0 + 1)) (xs (k0 + 2))
  refine lj_a1 C dL_754 ?_
  refine lj_arg C (k := 1) (hk 1 (by decide)) hL dL_755 dL_756 dL_757 dL_758 dL_759 (by decide) ?_
  refine lj_arg C (k := 2) (hk 2 (by decide)) hL dL_760 dL_761 dL_762 dL_763 dL_764 (by decide) ?_
  refine lj_callC (as := [.int (xs (k0 + 1)), .int (xs (k0 + 2))]) C X dL_765 vX3_drive (z_in (z_t2 145 (by decide +kernel)) rfl) (by decide) (Nat.le_of_ble_eq_true rfl) (fun _ => rfl) (fun _ => rfl) hc rfl rfl rfl rfl ?_
  refine lj_a2 C dL_768 ?_
  refine lj_arg C (k := 1) (hk 1 (by decide)) hL dL_769 dL_770 dL_771 dL_772 dL_773 (by decide) ?_
  refine lj_arg C (k := 2) (hk 2 (by decide)) hL dL_774 dL_775 dL_776 dL_777 dL_778 (by decide) ?_
  refine lj_callM (as := [.int (xs (k0 + 1)), .int (xs (k0 + 2))]) C X dL_779 vX4_drive (z_in (z_t5 62 (by decide +kernel)) rfl) (by decide) (Nat.le_of_ble_eq_true rfl) (fun _ => rfl) (fun _ => rfl) hm rfl rfl rfl rfl ?_
  exact lj_eq C (tgt := 1535) dL_782 (by decide) (kk _ _ _ _ _ R2)
theorem LC_19 (C : zl_C E D tA p s m meth c b L xs) (X : zl_G E s adC adM) {k0 : Nat} (hk : ∀ k, k < 6 → k0 + k < L) (hL : L ≤ 3072) (R : jR F4 G4 F N G) (kk : ∀ (F4 : Nat → Int32) (G4 : Nat → Nat → Int32) (F : Nat → Nat → Int32) (N : Nat → Nat → Int64) (G : Nat → Nat → Int32), jR F4 G4 F N G → Lj D tA p l e s m below meth c b adC adM Q 1535 k0 [] (rC F N G) (rM F4 G4)) : Lj D tA p l e s m below meth c b adC adM Q 787 k0 [] (rC F N G) (rM F4 G4) := by
  obtain ⟨v, F4', G4', F', N', G', hm, hc, R2⟩ := P_kindFor R (xs (k0 + 1))
  refine lj_a1 C dL_787 ?_
  refine lj_arg C (k := 1) (hk 1 (by decide)) hL dL_788 dL_789 dL_790 dL_791 dL_792 (by decide) ?_
  refine lj_callC (as := [.int (xs (k0 + 1))]) C X dL_793 vX3_kindFor (z_in (z_t2 149 (by decide +kernel)) rfl) (by decide) (Nat.le_of_ble_eq_true rfl) (fun _ => rfl) (fun _ => rfl) hc rfl rfl rfl rfl ?_
  refine lj_a2 C dL_796 ?_
  refine lj_arg C (k := 1) (hk 1 (by decide)) hL dL_797 dL_798 dL_799 dL_800 dL_801 (by decide) ?_
  refine lj_callM (as := [.int (xs (k0 + 1))]) C X dL_802 vX4_kindFor (z_in (z_t5 66 (by decide +kernel)) rfl) (by decide) (Nat.le_of_ble_eq_true rfl) (fun _ => rfl) (fun _ => rfl) hm rfl rfl rfl rfl ?_
  exact lj_eq C (tgt := 1535) dL_805 (by decide) (kk _ _ _ _ _ R2)
theorem LC_20 (C : zl_C E D tA p s m meth c b L xs) (X : zl_G E s adC adM) {k0 : Nat} (hk : ∀ k, k < 6 → k0 + k < L) (hL : L ≤ 3072) (R : jR F4 G4 F N G) (kk : ∀ (F4 : Nat → Int32) (G4 : Nat → Nat → Int32) (F : Nat → Nat → Int32) (N : Nat → Nat → Int64) (G : Nat → Nat → Int32), jR F4 G4 F N G → Lj D tA p l e s m below meth c b adC adM Q 1535 k0 [] (rC F N G) (rM F4 G4)) : Lj D tA p l e s m below meth c b adC adM Q 810 k0 [] (rC F N G) (rM F4 G4) := by
  obtain ⟨v, F4', G4', F', N', G', hm, hc, R2⟩ := P_stands R (xs (k0 + 1)) (xs (k0 + 2))
  refine lj_a1 C dL_810 ?_
  refine lj_arg C (k := 1) (hk 1 (by decide)) hL dL_811 dL_812 dL_813 dL_814 dL_815 (by decide) ?_
  refine lj_arg C (k := 2) (hk 2 (by decide)) hL dL_816 dL_817 dL_818 dL_819 dL_820 (by decide) ?_
  refine lj_callC (as := [.int (xs (k0 + 1)), .int (xs (k0 + 2))]) C X dL_821 vX3_stands (z_in (z_t2 153 (by decide +kernel)) rfl) (by decide) (Nat.le_of_ble_eq_true rfl) (fun _ => rfl) (fun _ => rfl) hc rfl rfl rfl rfl ?_
  refine lj_a2 C dL_824 ?_
  refine lj_arg C (k := 1) (hk 1 (by decide)) hL dL_825 dL_826 dL_827 dL_828 dL_829 (by decide) ?_
  refine lj_arg C (k := 2) (hk 2 (by decide)) hL dL_830 dL_831 dL_832 dL_833 dL_834 (by decide) ?_
  refine lj_callM (as := [.int (xs (k0 + 1)), .int (xs (k0 + 2))]) C X dL_835 vX4_stands (z_in (z_t5 70 (by decide +kernel)) rfl) (by decide) (Nat.le_of_ble_eq_true rfl) (fun _ => rfl) (fun _ => rfl) hm rfl rfl rfl rfl ?_
  exact lj_eq C (tgt := 1535) dL_838 (by decide) (kk _ _ _ _ _ R2)
theorem LC_21 (C : zl_C E D tA p s m meth c b L xs) (X : zl_G E s adC adM) {k0 : Nat} (hk : ∀ k, k < 6 → k0 + k < L) (hL : L ≤ 3072) (R : jR F4 G4 F N G) (kk : ∀ (F4 : Nat → Int32) (G4 : Nat → Nat → Int32) (F : Nat → Nat → Int32) (N : Nat → Nat → Int64) (G : Nat → Nat → Int32), jR F4 G4 F N G → Lj D tA p l e s m below meth c b adC adM Q 1535 k0 [] (rC F N G) (rM F4 G4)) : Lj D tA p l e s m below meth c b adC adM Q 843 k0 [] (rC F N G) (rM F4 G4) := by
  obtain ⟨v, F4', G4', F', N', G', hm, hc, R2⟩ := P_where R (xs (k0 + 1)) (xs (k0 + 2))
  refine lj_a1 C dL_843 ?_
  refine lj_arg C (k := 1) (hk 1 (by decide)) hL dL_844 dL_845 dL_846 dL_847 dL_848 (by decide) ?_
  refine lj_arg C (k := 2) (hk 2 (by decide)) hL dL_849 dL_850 dL_851 dL_852 dL_853 (by decide) ?_
  refine lj_callC (as := [.int (xs (k0 + 1)), .int (xs (k0 + 2))]) C X dL_854 vX3_where (z_in (z_t2 182 (by decide +kernel)) rfl) (by decide) (Nat.le_of_ble_eq_true rfl) (fun _ => rfl) (fun _ => rfl) hc rfl rfl rfl rfl ?_
  refine lj_a2 C dL_857 ?_
  refine lj_arg C (k := 1) (hk 1 (by decide)) hL dL_858 dL_859 dL_860 dL_861 dL_862 (by decide) ?_
  refine lj_arg C (k := 2) (hk 2 (by decide)) hL dL_863 dL_864 dL_865 dL_866 dL_867 (by decide) ?_
  refine lj_callM (as := [.int (xs (k0 + 1)), .int (xs (k0 + 2))]) C X dL_868 vX4_where (z_in (z_t5 102 (by decide +kernel)) rfl) (by decide) (Nat.le_of_ble_eq_true rfl) (fun _ => rfl) (fun _ => rfl) hm rfl rfl rfl rfl ?_
  exact lj_eq C (tgt := 1535) dL_871 (by decide) (kk _ _ _ _ _ R2)
theorem LC_22 (C : zl_C E D tA p s m meth c b L xs) (X : zl_G E s adC adM) {k0 : Nat} (hk : ∀ k, k < 6 → k0 + k < L) (hL : L ≤ 3072) (R : jR F4 G4 F N G) (kk : ∀ (F4 : Nat → Int32) (G4 : Nat → Nat → Int32) (F : Nat → Nat → Int32) (N : Nat → Nat → Int64) (G : Nat → Nat → Int32), jR F4 G4 F N G → Lj D tA p l e s m below meth c b adC adM Q 1535 k0 [] (rC F N G) (rM F4 G4)) : Lj D tA p l e s m below meth c b adC adM Q 876 k0 [] (rC F N G) (rM F4 G4) := by
  obtain ⟨v, F4', G4', F', N', G', hm, hc, R2⟩ := P_ear R (xs (k0 + 1)) (xs (k0 + 2))
  refine lj_a1 C dL_876 ?_
  refine lj_arg C (k := 1) (hk 1 (by decide)) hL dL_877 dL_878 dL_879 dL_880 dL_881 (by decide) ?_
  refine lj_arg C (k := 2) (hk 2 (by decide)) hL dL_882 dL_883 dL_884 dL_885 dL_886 (by decide) ?_
  refine lj_callC (as := [.int (xs (k0 + 1)), .int (xs (k0 + 2))]) C X dL_887 vX3_ear (z_in (z_t2 186 (by decide +kernel)) rfl) (by decide) (Nat.le_of_ble_eq_true rfl) (fun _ => rfl) (fun _ => rfl) hc rfl rfl rfl rfl ?_
  refine lj_a2 C dL_890 ?_
  refine lj_arg C (k := 1) (hk 1 (by decide)) hL dL_891 dL_892 dL_893 dL_894 dL_895 (by decide) ?_
  refine lj_arg C (k := 2) (hk 2 (by decide)) hL dL_896 dL_897 dL_898 dL_899 dL_900 (by decide) ?_
  refine lj_callM (as := [.int (xs (k0 + 1)), .int (xs (k0 + 2))]) C X dL_901 vX4_ear (z_in (z_t5 106 (by decide +kernel)) rfl) (by decide) (Nat.le_of_ble_eq_true rfl) (fun _ => rfl) (fun _ => rfl) hm rfl rfl rfl rfl ?_
  exact lj_eq C (tgt := 1535) dL_904 (by decide) (kk _ _ _ _ _ R2)
theorem LC_23 (C : zl_C E D tA p s m meth c b L xs) (X : zl_G E s adC adM) {k0 : Nat} (hk : ∀ k, k < 6 → k0 + k < L) (hL : L ≤ 3072) (R : jR F4 G4 F N G) (kk : ∀ (F4 : Nat → Int32) (G4 : Nat → Nat → Int32) (F : Nat → Nat → Int32) (N : Nat → Nat → Int64) (G : Nat → Nat → Int32), jR F4 G4 F N G → Lj D tA p l e s m below meth c b adC adM Q 1535 k0 [] (rC F N G) (rM F4 G4)) : Lj D tA p l e s m below meth c b adC adM Q 909 k0 [] (rC F N G) (rM F4 G4) := by
  obtain ⟨v, F4', G4', F', N', G', hm, hc, R2⟩ := P_whose R (xs (k0 + 1))
  refine lj_a1 C dL_909 ?_
  refine lj_arg C (k := 1) (hk 1 (by decide)) hL dL_910 dL_911 dL_912 dL_913 dL_914 (by decide) ?_
  refine lj_callC (as := [.int (xs (k0 + 1))]) C X dL_915 vX3_whose (z_in (z_t2 194 (by decide +kernel)) rfl) (by decide) (Nat.le_of_ble_eq_true rfl) (fun _ => rfl) (fun _ => rfl) hc rfl rfl rfl rfl ?_
  refine lj_a2 C dL_918 ?_
  refine lj_arg C (k := 1) (hk 1 (by decide)) hL dL_919 dL_920 dL_921 dL_922 dL_923 (by decide) ?_
  refine lj_callM (as := [.int (xs (k0 + 1))]) C X dL_924 vX4_whose (z_in (z_t5 114 (by decide +kernel)) rfl) (by decide) (Nat.le_of_ble_eq_true rfl) (fun _ => rfl) (fun _ => rfl) hm rfl rfl rfl rfl ?_
  exact lj_eq C (tgt := 1535) dL_927 (by decide) (kk _ _ _ _ _ R2)
theorem LC_24 (C : zl_C E D tA p s m meth c b L xs) (X : zl_G E s adC adM) {k0 : Nat} (hk : ∀ k, k < 6 → k0 + k < L) (hL : L ≤ 3072) (R : jR F4 G4 F N G) (kk : ∀ (F4 : Nat → Int32) (G4 : Nat → Nat → Int32) (F : Nat → Nat → Int32) (N : Nat → Nat → Int64) (G : Nat → Nat → Int32), jR F4 G4 F N G → Lj D tA p l e s m below meth c b adC adM Q 1535 k0 [] (rC F N G) (rM F4 G4)) : Lj D tA p l e s m below meth c b adC adM Q 932 k0 [] (rC F N G) (rM F4 G4) := by
  obtain ⟨v, F4', G4', F', N', G', hm, hc, R2⟩ := P_stock R (xs (k0 + 1)) (xs (k0 + 2)) (xs (k0 + 3))
  refine lj_a1 C dL_932 ?_
  refine lj_arg C (k := 1) (hk 1 (by decide)) hL dL_933 dL_934 dL_935 dL_936 dL_937 (by decide) ?_
  refine lj_arg C (k := 2) (hk 2 (by decide)) hL dL_938 dL_939 dL_940 dL_941 dL_942 (by decide) ?_
  refine lj_arg C (k := 3) (hk 3 (by decide)) hL dL_943 dL_944 dL_945 dL_946 dL_947 (by decide) ?_
  refine lj_callC (as := [.int (xs (k0 + 1)), .int (xs (k0 + 2)), .int (xs (k0 + 3))]) C X dL_948 vX3_stock (z_in (z_t2 199 (by decide +kernel)) rfl) (by decide) (Nat.le_of_ble_eq_true rfl) (fun _ => rfl) (fun _ => rfl) hc rfl rfl rfl rfl ?_
  refine lj_a2 C dL_951 ?_
  refine lj_arg C (k := 1) (hk 1 (by decide)) hL dL_952 dL_953 dL_954 dL_955 dL_956 (by decide) ?_
  refine lj_arg C (k := 2) (hk 2 (by decide)) hL dL_957 dL_958 dL_959 dL_960 dL_961 (by decide) ?_
  refine lj_arg C (k := 3) (hk 3 (by decide)) hL dL_962 dL_963 dL_964 dL_965 dL_966 (by decide) ?_
  refine lj_callM (as := [.int (xs (k0 + 1)), .int (xs (k0 + 2)), .int (xs (k0 + 3))]) C X dL_967 vX4_stock (z_in (z_t5 118 (by decide +kernel)) rfl) (by decide) (Nat.le_of_ble_eq_true rfl) (fun _ => rfl) (fun _ => rfl) hm rfl rfl rfl rfl ?_
  exact lj_eq C (tgt := 1535) dL_970 (by decide) (kk _ _ _ _ _ R2)
theorem LC_25 (C : zl_C E D tA p s m meth c b L xs) (X : zl_G E s adC adM) {k0 : Nat} (hk : ∀ k, k < 6 → k0 + k < L) (hL : L ≤ 3072) (R : jR F4 G4 F N G) (kk : ∀ (F4 : Nat → Int32) (G4 : Nat → Nat → Int32) (F : Nat → Nat → Int32) (N : Nat → Nat → Int64) (G : Nat → Nat → Int32), jR F4 G4 F N G → Lj D tA p l e s m below meth c b adC adM Q 1535 k0 [] (rC F N G) (rM F4 G4)) : Lj D tA p l e s m below meth c b adC adM Q 975 k0 [] (rC F N G) (rM F4 G4) := by
  obtain ⟨v, F4', G4', F', N', G', hm, hc, R2⟩ := P_lasts R (xs (k0 + 1)) (xs (k0 + 2))
  refine lj_a1 C dL_975 ?_
  refine lj_arg C (k := 1) (hk 1 (by decide)) hL dL_976 dL_977 dL_978 dL_979 dL_980 (by decide) ?_
  refine lj_arg C (k := 2) (hk 2 (by decide)) hL dL_981 dL_982 dL_983 dL_984 dL_985 (by decide) ?_
  refine lj_callC (as := [.int (xs (k0 + 1)), .int (xs (k0 + 2))]) C X dL_986 vX3_lasts (z_in (z_t2 210 (by decide +kernel)) rfl) (by decide) (Nat.le_of_ble_eq_true rfl) (fun _ => rfl) (fun _ => rfl) hc rfl rfl rfl rfl ?_
  refine lj_a2 C dL_989 ?_
  refine lj_arg C (k := 1) (hk 1 (by decide)) hL dL_990 dL_991 dL_992 dL_993 dL_994 (by decide) ?_
  refine lj_arg C (k := 2) (hk 2 (by decide)) hL dL_995 dL_996 dL_997 dL_998 dL_999 (by decide) ?_
  refine lj_callM (as := [.int (xs (k0 + 1)), .int (xs (k0 + 2))]) C X dL_1000 vX4_lasts (z_in (z_t5 125 (by decide +kernel)) rfl) (by decide) (Nat.le_of_ble_eq_true rfl) (fun _ => rfl) (fun _ => rfl) hm rfl rfl rfl rfl ?_
  exact lj_eq C (tgt := 1535) dL_1003 (by decide) (kk _ _ _ _ _ R2)
theorem LC_26 (C : zl_C E D tA p s m meth c b L xs) (X : zl_G E s adC adM) {k0 : Nat} (hk : ∀ k, k < 6 → k0 + k < L) (hL : L ≤ 3072) (R : jR F4 G4 F N G) (kk : ∀ (F4 : Nat → Int32) (G4 : Nat → Nat → Int32) (F : Nat → Nat → Int32) (N : Nat → Nat → Int64) (G : Nat → Nat → Int32), jR F4 G4 F N G → Lj D tA p l e s m below meth c b adC adM Q 1535 k0 [] (rC F N G) (rM F4 G4)) : Lj D tA p l e s m below meth c b adC adM Q 1008 k0 [] (rC F N G) (rM F4 G4) := by
  obtain ⟨v, F4', G4', F', N', G', hm, hc, R2⟩ := P_ring R
  refine lj_a1 C dL_1008 ?_
  refine lj_callC (as := []) C X dL_1009 vX3_ring (z_in (z_t2 214 (by decide +kernel)) rfl) (by decide) (Nat.le_of_ble_eq_true rfl) (fun _ => rfl) (fun _ => rfl) hc rfl rfl rfl rfl ?_
  refine lj_a2 C dL_1012 ?_
  refine lj_callM (as := []) C X dL_1013 vX4_ring (z_in (z_t5 129 (by decide +kernel)) rfl) (by decide) (Nat.le_of_ble_eq_true rfl) (fun _ => rfl) (fun _ => rfl) hm rfl rfl rfl rfl ?_
  exact lj_eq C (tgt := 1535) dL_1016 (by decide) (kk _ _ _ _ _ R2)
theorem LC_27 (C : zl_C E D tA p s m meth c b L xs) (X : zl_G E s adC adM) {k0 : Nat} (hk : ∀ k, k < 6 → k0 + k < L) (hL : L ≤ 3072) (R : jR F4 G4 F N G) (kk : ∀ (F4 : Nat → Int32) (G4 : Nat → Nat → Int32) (F : Nat → Nat → Int32) (N : Nat → Nat → Int64) (G : Nat → Nat → Int32), jR F4 G4 F N G → Lj D tA p l e s m below meth c b adC adM Q 1535 k0 [] (rC F N G) (rM F4 G4)) : Lj D tA p l e s m below meth c b adC adM Q 1021 k0 [] (rC F N G) (rM F4 G4) := by
  obtain ⟨v, F4', G4', F', N', G', hm, hc, R2⟩ := P_rings R
  refine lj_a1 C dL_1021 ?_
  refine lj_callC (as := []) C X dL_1022 vX3_rings (z_in (z_t2 230 (by decide +kernel)) rfl) (by decide) (Nat.le_of_ble_eq_true rfl) (fun _ => rfl) (fun _ => rfl) hc rfl rfl rfl rfl ?_
  refine lj_a2 C dL_1025 ?_
  refine lj_callM (as := []) C X dL_1026 vX4_rings (z_in (z_t5 147 (by decide +kernel)) rfl) (by decide) (Nat.le_of_ble_eq_true rfl) (fun _ => rfl) (fun _ => rfl) hm rfl rfl rfl rfl ?_
  exact lj_eq C (tgt := 1535) dL_1029 (by decide) (kk _ _ _ _ _ R2)
theorem LC_28 (C : zl_C E D tA p s m meth c b L xs) (X : zl_G E s adC adM) {k0 : Nat} (hk : ∀ k, k < 6 → k0 + k < L) (hL : L ≤ 3072) (R : jR F4 G4 F N G) (kk : ∀ (F4 : Nat → Int32) (G4 : Nat → Nat → Int32) (F : Nat → Nat → Int32) (N : Nat → Nat → Int64) (G : Nat → Nat → Int32), jR F4 G4 F N G → Lj D tA p l e s m below meth c b adC adM Q 1535 k0 [] (rC F N G) (rM F4 G4)) : Lj D tA p l e s m below meth c b adC adM Q 1034 k0 [] (rC F N G) (rM F4 G4) := by
  obtain ⟨v, F4', G4', F', N', G', hm, hc, R2⟩ := P_peals R
  refine lj_a1 C dL_1034 ?_
  refine lj_callC (as := []) C X dL_1035 vX3_peals (z_in (z_t2 234 (by decide +kernel)) rfl) (by decide) (Nat.le_of_ble_eq_true rfl) (fun _ => rfl) (fun _ => rfl) hc rfl rfl rfl rfl ?_
  refine lj_a2 C dL_1038 ?_
  refine lj_callM (as := []) C X dL_1039 vX4_peals (z_in (z_t5 151 (by decide +kernel)) rfl) (by decide) (Nat.le_of_ble_eq_true rfl) (fun _ => rfl) (fun _ => rfl) hm rfl rfl rfl rfl ?_
  exact lj_eq C (tgt := 1535) dL_1042 (by decide) (kk _ _ _ _ _ R2)
theorem LC_29 (C : zl_C E D tA p s m meth c b L xs) (X : zl_G E s adC adM) {k0 : Nat} (hk : ∀ k, k < 6 → k0 + k < L) (hL : L ≤ 3072) (R : jR F4 G4 F N G) (kk : ∀ (F4 : Nat → Int32) (G4 : Nat → Nat → Int32) (F : Nat → Nat → Int32) (N : Nat → Nat → Int64) (G : Nat → Nat → Int32), jR F4 G4 F N G → Lj D tA p l e s m below meth c b adC adM Q 1535 k0 [] (rC F N G) (rM F4 G4)) : Lj D tA p l e s m below meth c b adC adM Q 1047 k0 [] (rC F N G) (rM F4 G4) := by
  obtain ⟨v, F4', G4', F', N', G', hm, hc, R2⟩ := P_wanted R
  refine lj_a1 C dL_1047 ?_
  refine lj_callC (as := []) C X dL_1048 vX3_wanted (z_in (z_t2 239 (by decide +kernel)) rfl) (by decide) (Nat.le_of_ble_eq_true rfl) (fun _ => rfl) (fun _ => rfl) hc rfl rfl rfl rfl ?_
  refine lj_a2 C dL_1051 ?_
  refine lj_callM (as := []) C X dL_1052 vX4_wanted (z_in (z_t5 155 (by decide +kernel)) rfl) (by decide) (Nat.le_of_ble_eq_true rfl) (fun _ => rfl) (fun _ => rfl) hm rfl rfl rfl rfl ?_
  exact lj_eq C (tgt := 1535) dL_1055 (by decide) (kk _ _ _ _ _ R2)
theorem LC_30 (C : zl_C E D tA p s m meth c b L xs) (X : zl_G E s adC adM) {k0 : Nat} (hk : ∀ k, k < 6 → k0 + k < L) (hL : L ≤ 3072) (R : jR F4 G4 F N G) (kk : ∀ (F4 : Nat → Int32) (G4 : Nat → Nat → Int32) (F : Nat → Nat → Int32) (N : Nat → Nat → Int64) (G : Nat → Nat → Int32), jR F4 G4 F N G → Lj D tA p l e s m below meth c b adC adM Q 1535 k0 [] (rC F N G) (rM F4 G4)) : Lj D tA p l e s m below meth c b adC adM Q 1060 k0 [] (rC F N G) (rM F4 G4) := by
  obtain ⟨v, F4', G4', F', N', G', hm, hc, R2⟩ := P_changes R (xs (k0 + 1))
  refine lj_a1 C dL_1060 ?_
  refine lj_arg C (k := 1) (hk 1 (by decide)) hL dL_1061 dL_1062 dL_1063 dL_1064 dL_1065 (by decide) ?_
  refine lj_callC (as := [.int (xs (k0 + 1))]) C X dL_1066 vX3_changes (z_in (z_t3 8 (by decide +kernel)) rfl) (by decide) (Nat.le_of_ble_eq_true rfl) (fun _ => rfl) (fun _ => rfl) hc rfl rfl rfl rfl ?_
  refine lj_a2 C dL_1069 ?_
  refine lj_arg C (k := 1) (hk 1 (by decide)) hL dL_1070 dL_1071 dL_1072 dL_1073 dL_1074 (by decide) ?_
  refine lj_callM (as := [.int (xs (k0 + 1))]) C X dL_1075 vX4_changes (z_in (z_t5 162 (by decide +kernel)) rfl) (by decide) (Nat.le_of_ble_eq_true rfl) (fun _ => rfl) (fun _ => rfl) hm rfl rfl rfl rfl ?_
  refine lj_lcmp C dL_1078 ?_
  exact lj_eq0 C (tgt := 1535) dL_1079 (by decide) (kk _ _ _ _ _ R2)
theorem LC_31 (C : zl_C E D tA p s m meth c b L xs) (X : zl_G E s adC adM) {k0 : Nat} (hk : ∀ k, k < 6 → k0 + k < L) (hL : L ≤ 3072) (R : jR F4 G4 F N G) (kk : ∀ (F4 : Nat → Int32) (G4 : Nat → Nat → Int32) (F : Nat → Nat → Int32) (N : Nat → Nat → Int64) (G : Nat → Nat → Int32), jR F4 G4 F N G → Lj D tA p l e s m below meth c b adC adM Q 1535 k0 [] (rC F N G) (rM F4 G4)) : Lj D tA p l e s m below meth c b adC adM Q 1084 k0 [] (rC F N G) (rM F4 G4) := by
  obtain ⟨v, F4', G4', F', N', G', hm, hc, R2⟩ := P_thunder R (xs (k0 + 1))
  refine lj_a1 C dL_1084 ?_
  refine lj_arg C (k := 1) (hk 1 (by decide)) hL dL_1085 dL_1086 dL_1087 dL_1088 dL_1089 (by decide) ?_
  refine lj_callC (as := [.int (xs (k0 + 1))]) C X dL_1090 vX3_thunder (z_in (z_t3 12 (by decide +kernel)) rfl) (by decide) (Nat.le_of_ble_eq_true rfl) (fun _ => rfl) (fun _ => rfl) hc rfl rfl rfl rfl ?_
  refine lj_a2 C dL_1093 ?_
  refine lj_arg C (k := 1) (hk 1 (by decide)) hL dL_1094 dL_1095 dL_1096 dL_1097 dL_1098 (by decide) ?_
  refine lj_callM (as := [.int (xs (k0 + 1))]) C X dL_1099 vX4_thunder (z_in (z_t5 166 (by decide +kernel)) rfl) (by decide) (Nat.le_of_ble_eq_true rfl) (fun _ => rfl) (fun _ => rfl) hm rfl rfl rfl rfl ?_
  exact lj_eq C (tgt := 1535) dL_1102 (by decide) (kk _ _ _ _ _ R2)
theorem LC_32 (C : zl_C E D tA p s m meth c b L xs) (X : zl_G E s adC adM) {k0 : Nat} (hk : ∀ k, k < 6 → k0 + k < L) (hL : L ≤ 3072) (R : jR F4 G4 F N G) (kk : ∀ (F4 : Nat → Int32) (G4 : Nat → Nat → Int32) (F : Nat → Nat → Int32) (N : Nat → Nat → Int64) (G : Nat → Nat → Int32), jR F4 G4 F N G → Lj D tA p l e s m below meth c b adC adM Q 1535 k0 [] (rC F N G) (rM F4 G4)) : Lj D tA p l e s m below meth c b adC adM Q 1107 k0 [] (rC F N G) (rM F4 G4) := by
  obtain ⟨v, F4', G4', F', N', G', hm, hc, R2⟩ := P_seed R (xs (k0 + 1))
  refine lj_a1 C dL_1107 ?_
  refine lj_arg C (k := 1) (hk 1 (by decide)) hL dL_1108 dL_1109 dL_1110 dL_1111 dL_1112 (by decide) ?_
  refine lj_callC (as := [.int (xs (k0 + 1))]) C X dL_1113 vX3_seed (z_in (z_t3 25 (by decide +kernel)) rfl) (by decide) (Nat.le_of_ble_eq_true rfl) (fun _ => rfl) (fun _ => rfl) hc rfl rfl rfl rfl ?_
  refine lj_a2 C dL_1116 ?_
  refine lj_arg C (k := 1) (hk 1 (by decide)) hL dL_1117 dL_1118 dL_1119 dL_1120 dL_1121 (by decide) ?_
  refine lj_callM (as := [.int (xs (k0 + 1))]) C X dL_1122 vX4_seed (z_in (z_t5 175 (by decide +kernel)) rfl) (by decide) (Nat.le_of_ble_eq_true rfl) (fun _ => rfl) (fun _ => rfl) hm rfl rfl rfl rfl ?_
  exact lj_eq C (tgt := 1535) dL_1125 (by decide) (kk _ _ _ _ _ R2)
theorem LC_33 (C : zl_C E D tA p s m meth c b L xs) (X : zl_G E s adC adM) {k0 : Nat} (hk : ∀ k, k < 6 → k0 + k < L) (hL : L ≤ 3072) (R : jR F4 G4 F N G) (kk : ∀ (F4 : Nat → Int32) (G4 : Nat → Nat → Int32) (F : Nat → Nat → Int32) (N : Nat → Nat → Int64) (G : Nat → Nat → Int32), jR F4 G4 F N G → Lj D tA p l e s m below meth c b adC adM Q 1535 k0 [] (rC F N G) (rM F4 G4)) : Lj D tA p l e s m below meth c b adC adM Q 1130 k0 [] (rC F N G) (rM F4 G4) := by
  obtain ⟨v, F4', G4', F', N', G', hm, hc, R2⟩ := P_feed R (xs (k0 + 1)) (xs (k0 + 2))
  refine lj_a1 C dL_1130 ?_
  refine lj_arg C (k := 1) (hk 1 (by decide)) hL dL_1131 dL_1132 dL_1133 dL_1134 dL_1135 (by decide) ?_
  refine lj_arg C (k := 2) (hk 2 (by decide)) hL dL_1136 dL_1137 dL_1138 dL_1139 dL_1140 (by decide) ?_
  refine lj_callC (as := [.int (xs (k0 + 1)), .int (xs (k0 + 2))]) C X dL_1141 vX3_feed (z_in (z_t3 29 (by decide +kernel)) rfl) (by decide) (Nat.le_of_ble_eq_true rfl) (fun _ => rfl) (fun _ => rfl) hc rfl rfl rfl rfl ?_
  refine lj_a2 C dL_1144 ?_
  refine lj_arg C (k := 1) (hk 1 (by decide)) hL dL_1145 dL_1146 dL_1147 dL_1148 dL_1149 (by decide) ?_
  refine lj_arg C (k := 2) (hk 2 (by decide)) hL dL_1150 dL_1151 dL_1152 dL_1153 dL_1154 (by decide) ?_
  refine lj_callM (as := [.int (xs (k0 + 1)), .int (xs (k0 + 2))]) C X dL_1155 vX4_feed (z_in (z_t5 179 (by decide +kernel)) rfl) (by decide) (Nat.le_of_ble_eq_true rfl) (fun _ => rfl) (fun _ => rfl) hm rfl rfl rfl rfl ?_
  exact lj_eq C (tgt := 1535) dL_1158 (by decide) (kk _ _ _ _ _ R2)
theorem LC_34 (C : zl_C E D tA p s m meth c b L xs) (X : zl_G E s adC adM) {k0 : Nat} (hk : ∀ k, k < 6 → k0 + k < L) (hL : L ≤ 3072) (R : jR F4 G4 F N G) (kk : ∀ (F4 : Nat → Int32) (G4 : Nat → Nat → Int32) (F : Nat → Nat → Int32) (N : Nat → Nat → Int64) (G : Nat → Nat → Int32), jR F4 G4 F N G → Lj D tA p l e s m below meth c b adC adM Q 1535 k0 [] (rC F N G) (rM F4 G4)) : Lj D tA p l e s m below meth c b adC adM Q 1163 k0 [] (rC F N G) (rM F4 G4) := by
  obtain ⟨v, F4', G4', F', N', G', hm, hc, R2⟩ := P_wipe R
  refine lj_a1 C dL_1163 ?_
  refine lj_callC (as := []) C X dL_1164 vX3_wipe (z_in (z_t3 37 (by decide +kernel)) rfl) (by decide) (Nat.le_of_ble_eq_true rfl) (fun _ => rfl) (fun _ => rfl) hc rfl rfl rfl rfl ?_
  refine lj_a2 C dL_1167 ?_
  refine lj_callM (as := []) C X dL_1168 vX4_wipe (z_in (z_t5 183 (by decide +kernel)) rfl) (by decide) (Nat.le_of_ble_eq_true rfl) (fun _ => rfl) (fun _ => rfl) hm rfl rfl rfl rfl ?_
  exact lj_eq C (tgt := 1535) dL_1171 (by decide) (kk _ _ _ _ _ R2)
theorem LC_35 (C : zl_C E D tA p s m meth c b L xs) (X : zl_G E s adC adM) {k0 : Nat} (hk : ∀ k, k < 6 → k0 + k < L) (hL : L ≤ 3072) (R : jR F4 G4 F N G) (kk : ∀ (F4 : Nat → Int32) (G4 : Nat → Nat → Int32) (F : Nat → Nat → Int32) (N : Nat → Nat → Int64) (G : Nat → Nat → Int32), jR F4 G4 F N G → Lj D tA p l e s m below meth c b adC adM Q 1535 k0 [] (rC F N G) (rM F4 G4)) : Lj D tA p l e s m below meth c b adC adM Q 1176 k0 [] (rC F N G) (rM F4 G4) := by
  obtain ⟨v, F4', G4', F', N', G', hm, hc, R2⟩ := P_text R
  refine lj_a1 C dL_1176 ?_
  refine lj_callC (as := []) C X dL_1177 vX3_text (z_in (z_t3 41 (by decide +kernel)) rfl) (by decide) (Nat.le_of_ble_eq_true rfl) (fun _ => rfl) (fun _ => rfl) hc rfl rfl rfl rfl ?_
  refine lj_a2 C dL_1180 ?_
  refine lj_callM (as := []) C X dL_1181 vX4_text (z_in (z_t5 187 (by decide +kernel)) rfl) (by decide) (Nat.le_of_ble_eq_true rfl) (fun _ => rfl) (fun _ => rfl) hm rfl rfl rfl rfl ?_
  exact lj_eq C (tgt := 1535) dL_1184 (by decide) (kk _ _ _ _ _ R2)
theorem LC_36 (C : zl_C E D tA p s m meth c b L xs) (X : zl_G E s adC adM) {k0 : Nat} (hk : ∀ k, k < 6 → k0 + k < L) (hL : L ≤ 3072) (R : jR F4 G4 F N G) (kk : ∀ (F4 : Nat → Int32) (G4 : Nat → Nat → Int32) (F : Nat → Nat → Int32) (N : Nat → Nat → Int64) (G : Nat → Nat → Int32), jR F4 G4 F N G → Lj D tA p l e s m below meth c b adC adM Q 1535 k0 [] (rC F N G) (rM F4 G4)) : Lj D tA p l e s m below meth c b adC adM Q 1189 k0 [] (rC F N G) (rM F4 G4) := by
  obtain ⟨v, F4', G4', F', N', G', hm, hc, R2⟩ := P_hold R (xs (k0 + 1)) (xs (k0 + 2))
  refine lj_a1 C dL_1189 ?_
  refine lj_arg C (k := 1) (hk 1 (by decide)) hL dL_1190 dL_1191 dL_1192 dL_1193 dL_1194 (by decide) ?_
  refine lj_arg C (k := 2) (hk 2 (by decide)) hL dL_1195 dL_1196 dL_1197 dL_1198 dL_1199 (by decide) ?_
  refine lj_callC (as := [.int (xs (k0 + 1)), .int (xs (k0 + 2))]) C X dL_1200 vX3_hold (z_in (z_t3 161 (by decide +kernel)) rfl) (by decide) (Nat.le_of_ble_eq_true rfl) (fun _ => rfl) (fun _ => rfl) hc rfl rfl rfl rfl ?_
  refine lj_a2 C dL_1203 ?_
  refine lj_arg C (k := 1) (hk 1 (by decide)) hL dL_1204 dL_1205 dL_1206 dL_1207 dL_1208 (by decide) ?_
  refine lj_arg C (k := 2) (hk 2 (by decide)) hL dL_1209 dL_1210 dL_1211 dL_1212 dL_1213 (by decide) ?_
  refine lj_callM (as := [.int (xs (k0 + 1)), .int (xs (k0 + 2))]) C X dL_1214 vX4_hold (z_in (z_t6 0 (by decide +kernel)) rfl) (by decide) (Nat.le_of_ble_eq_true rfl) (fun _ => rfl) (fun _ => rfl) hm rfl rfl rfl rfl ?_
  exact lj_eq C (tgt := 1535) dL_1217 (by decide) (kk _ _ _ _ _ R2)
theorem LC_37 (C : zl_C E D tA p s m meth c b L xs) (X : zl_G E s adC adM) {k0 : Nat} (hk : ∀ k, k < 6 → k0 + k < L) (hL : L ≤ 3072) (R : jR F4 G4 F N G) (kk : ∀ (F4 : Nat → Int32) (G4 : Nat → Nat → Int32) (F : Nat → Nat → Int32) (N : Nat → Nat → Int64) (G : Nat → Nat → Int32), jR F4 G4 F N G → Lj D tA p l e s m below meth c b adC adM Q 1535 k0 [] (rC F N G) (rM F4 G4)) : Lj D tA p l e s m below meth c b adC adM Q 1222 k0 [] (rC F N G) (rM F4 G4) := by
  obtain ⟨v, F4', G4', F', N', G', hm, hc, R2⟩ := P_as R (xs (k0 + 1)) (xs (k0 + 2))
  refine lj_a1 C dL_1222 ?_
  refine lj_arg C (k := 1) (hk 1 (by decide)) hL dL_1223 dL_1224 dL_1225 dL_1226 dL_1227 (by decide) ?_
  refine lj_arg C (k := 2) (hk 2 (by decide)) hL dL_1228 dL_1229 dL_1230 dL_1231 dL_1232 (by decide) ?_
  refine lj_callC (as := [.int (xs (k0 + 1)), .int (xs (k0 + 2))]) C X dL_1233 vX3_as (z_in (z_t3 168 (by decide +kernel)) rfl) (by decide) (Nat.le_of_ble_eq_true rfl) (fun _ => rfl) (fun _ => rfl) hc rfl rfl rfl rfl ?_
  refine lj_a2 C dL_1236 ?_
  refine lj_arg C (k := 1) (hk 1 (by decide)) hL dL_1237 dL_1238 dL_1239 dL_1240 dL_1241 (by decide) ?_
  refine lj_arg C (k := 2) (hk 2 (by decide)) hL dL_1242 dL_1243 dL_1244 dL_1245 dL_1246 (by decide) ?_
  refine lj_callM (as := [.int (xs (k0 + 1)), .int (xs (k0 + 2))]) C X dL_1247 vX4_as (z_in (z_t6 7 (by decide +kernel)) rfl) (by decide) (Nat.le_of_ble_eq_true rfl) (fun _ => rfl) (fun _ => rfl) hm rfl rfl rfl rfl ?_
  exact lj_eq C (tgt := 1535) dL_1250 (by decide) (kk _ _ _ _ _ R2)
theorem LC_38 (C : zl_C E D tA p s m meth c b L xs) (X : zl_G E s adC adM) {k0 : Nat} (hk : ∀ k, k < 6 → k0 + k < L) (hL : L ≤ 3072) (R : jR F4 G4 F N G) (kk : ∀ (F4 : Nat → Int32) (G4 : Nat → Nat → Int32) (F : Nat → Nat → Int32) (N : Nat → Nat → Int64) (G : Nat → Nat → Int32), jR F4 G4 F N G → Lj D tA p l e s m below meth c b adC adM Q 1535 k0 [] (rC F N G) (rM F4 G4)) : Lj D tA p l e s m below meth c b adC adM Q 1255 k0 [] (rC F N G) (rM F4 G4) := by
  obtain ⟨v, F4', G4', F', N', G', hm, hc, R2⟩ := P_sheet R (xs (k0 + 1)) (xs (k0 + 2)) (xs (k0 + 3))
  refine lj_a1 C dL_1255 ?_
  refine lj_arg C (k := 1) (hk 1 (by decide)) hL dL_1256 dL_1257 dL_1258 dL_1259 dL_1260 (by decide) ?_
  refine lj_arg C (k := 2) (hk 2 (by decide)) hL dL_1261 dL_1262 dL_1263 dL_1264 dL_1265 (by decide) ?_
  refine lj_arg C (k := 3) (hk 3 (by decide)) hL dL_1266 dL_1267 dL_1268 dL_1269 dL_1270 (by decide) ?_
  refine lj_callC (as := [.int (xs (k0 + 1)), .int (xs (k0 + 2)), .int (xs (k0 + 3))]) C X dL_1271 vX3_sheet (z_in (z_t3 173 (by decide +kernel)) rfl) (by decide) (Nat.le_of_ble_eq_true rfl) (fun _ => rfl) (fun _ => rfl) hc rfl rfl rfl rfl ?_
  refine lj_a2 C dL_1274 ?_
  refine lj_arg C (k := 1) (hk 1 (by decide)) hL dL_1275 dL_1276 dL_1277 dL_1278 dL_1279 (by decide) ?_
  refine lj_arg C (k := 2) (hk 2 (by decide)) hL dL_1280 dL_1281 dL_1282 dL_1283 dL_1284 (by decide) ?_
  refine lj_arg C (k := 3) (hk 3 (by decide)) hL dL_1285 dL_1286 dL_1287 dL_1288 dL_1289 (by decide) ?_
  refine lj_callM (as := [.int (xs (k0 + 1)), .int (xs (k0 + 2)), .int (xs (k0 + 3))]) C X dL_1290 vX4_sheet (z_in (z_t6 12 (by decide +kernel)) rfl) (by decide) (Nat.le_of_ble_eq_true rfl) (fun _ => rfl) (fun _ => rfl) hm rfl rfl rfl rfl ?_
  exact lj_eq C (tgt := 1535) dL_1293 (by decide) (kk _ _ _ _ _ R2)
theorem LC_39 (C : zl_C E D tA p s m meth c b L xs) (X : zl_G E s adC adM) {k0 : Nat} (hk : ∀ k, k < 6 → k0 + k < L) (hL : L ≤ 3072) (R : jR F4 G4 F N G) (kk : ∀ (F4 : Nat → Int32) (G4 : Nat → Nat → Int32) (F : Nat → Nat → Int32) (N : Nat → Nat → Int64) (G : Nat → Nat → Int32), jR F4 G4 F N G → Lj D tA p l e s m below meth c b adC adM Q 1535 k0 [] (rC F N G) (rM F4 G4)) : Lj D tA p l e s m below meth c b adC adM Q 1298 k0 [] (rC F N G) (rM F4 G4) := by
  obtain ⟨v, F4', G4', F', N', G', hm, hc, R2⟩ := P_write R (xs (k0 + 1)) (xs (k0 + 2)) (xs (k0 + 3))
  refine lj_a1 C dL_1298 ?_
  refine lj_arg C (k := 1) (hk 1 (by decide)) hL dL_1299 dL_1300 dL_1301 dL_1302 dL_1303 (by decide) ?_
  refine lj_arg C (k := 2) (hk 2 (by decide)) hL dL_1304 dL_1305 dL_1306 dL_1307 dL_1308 (by decide) ?_
  refine lj_arg C (k := 3) (hk 3 (by decide)) hL dL_1309 dL_1310 dL_1311 dL_1312 dL_1313 (by decide) ?_
  refine lj_callC (as := [.int (xs (k0 + 1)), .int (xs (k0 + 2)), .int (xs (k0 + 3))]) C X dL_1314 vX3_write (z_in (z_t3 181 (by decide +kernel)) rfl) (by decide) (Nat.le_of_ble_eq_true rfl) (fun _ => rfl) (fun _ => rfl) hc rfl rfl rfl rfl ?_
  refine lj_a2 C dL_1317 ?_
  refine lj_arg C (k := 1) (hk 1 (by decide)) hL dL_1318 dL_1319 dL_1320 dL_1321 dL_1322 (by decide) ?_
  refine lj_arg C (k := 2) (hk 2 (by decide)) hL dL_1323 dL_1324 dL_1325 dL_1326 dL_1327 (by decide) ?_
  refine lj_arg C (k := 3) (hk 3 (by decide)) hL dL_1328 dL_1329 dL_1330 dL_1331 dL_1332 (by decide) ?_
  refine lj_callM (as := [.int (xs (k0 + 1)), .int (xs (k0 + 2)), .int (xs (k0 + 3))]) C X dL_1333 vX4_write (z_in (z_t6 17 (by decide +kernel)) rfl) (by decide) (Nat.le_of_ble_eq_true rfl) (fun _ => rfl) (fun _ => rfl) hm rfl rfl rfl rfl ?_
  exact lj_eq C (tgt := 1535) dL_1336 (by decide) (kk _ _ _ _ _ R2)
theorem LC_40 (C : zl_C E D tA p s m meth c b L xs) (X : zl_G E s adC adM) {k0 : Nat} (hk : ∀ k, k < 6 → k0 + k < L) (hL : L ≤ 3072) (R : jR F4 G4 F N G) (kk : ∀ (F4 : Nat → Int32) (G4 : Nat → Nat → Int32) (F : Nat → Nat → Int32) (N : Nat → Nat → Int64) (G : Nat → Nat → Int32), jR F4 G4 F N G → Lj D tA p l e s m below meth c b adC adM Q 1535 k0 [] (rC F N G) (rM F4 G4)) : Lj D tA p l e s m below meth c b adC adM Q 1341 k0 [] (rC F N G) (rM F4 G4) := by
  obtain ⟨v, F4', G4', F', N', G', hm, hc, R2⟩ := P_copy R (xs (k0 + 1)) (xs (k0 + 2)) (xs (k0 + 3)) (xs (k0 + 4)) (xs (k0 + 5))
  refine lj_a1 C dL_1341 ?_
  refine lj_arg C (k := 1) (hk 1 (by decide)) hL dL_1342 dL_1343 dL_1344 dL_1345 dL_1346 (by decide) ?_
  refine lj_arg C (k := 2) (hk 2 (by decide)) hL dL_1347 dL_1348 dL_1349 dL_1350 dL_1351 (by decide) ?_
  refine lj_arg C (k := 3) (hk 3 (by decide)) hL dL_1352 dL_1353 dL_1354 dL_1355 dL_1356 (by decide) ?_
  refine lj_arg C (k := 4) (hk 4 (by decide)) hL dL_1357 dL_1358 dL_1359 dL_1360 dL_1361 (by decide) ?_
  refine lj_arg C (k := 5) (hk 5 (by decide)) hL dL_1362 dL_1363 dL_1364 dL_1365 dL_1366 (by decide) ?_
  refine lj_callC (as := [.int (xs (k0 + 1)), .int (xs (k0 + 2)), .int (xs (k0 + 3)), .int (xs (k0 + 4)), .int (xs (k0 + 5))]) C X dL_1367 vX3_copy (z_in (z_t3 189 (by decide +kernel)) rfl) (by decide) (Nat.le_of_ble_eq_true rfl) (fun _ => rfl) (fun _ => rfl) hc rfl rfl rfl rfl ?_
  refine lj_a2 C dL_1370 ?_
  refine lj_arg C (k := 1) (hk 1 (by decide)) hL dL_1371 dL_1372 dL_1373 dL_1374 dL_1375 (by decide) ?_
  refine lj_arg C (k := 2) (hk 2 (by decide)) hL dL_1376 dL_1377 dL_1378 dL_1379 dL_1380 (by decide) ?_
  refine lj_arg C (k := 3) (hk 3 (by decide)) hL dL_1381 dL_1382 dL_1383 dL_1384 dL_1385 (by decide) ?_
  refine lj_arg C (k := 4) (hk 4 (by decide)) hL dL_1386 dL_1387 dL_1388 dL_1389 dL_1390 (by decide) ?_
  refine lj_arg C (k := 5) (hk 5 (by decide)) hL dL_1391 dL_1392 dL_1393 dL_1394 dL_1395 (by decide) ?_
  refine lj_callM (as := [.int (xs (k0 + 1)), .int (xs (k0 + 2)), .int (xs (k0 + 3)), .int (xs (k0 + 4)), .int (xs (k0 + 5))]) C X dL_1396 vX4_copy (z_in (z_t6 24 (by decide +kernel)) rfl) (by decide) (Nat.le_of_ble_eq_true rfl) (fun _ => rfl) (fun _ => rfl) hm rfl rfl rfl rfl ?_
  exact lj_eq C (tgt := 1535) dL_1399 (by decide) (kk _ _ _ _ _ R2)
theorem LC_41 (C : zl_C E D tA p s m meth c b L xs) (X : zl_G E s adC adM) {k0 : Nat} (hk : ∀ k, k < 6 → k0 + k < L) (hL : L ≤ 3072) (R : jR F4 G4 F N G) (kk : ∀ (F4 : Nat → Int32) (G4 : Nat → Nat → Int32) (F : Nat → Nat → Int32) (N : Nat → Nat → Int64) (G : Nat → Nat → Int32), jR F4 G4 F N G → Lj D tA p l e s m below meth c b adC adM Q 1535 k0 [] (rC F N G) (rM F4 G4)) : Lj D tA p l e s m below meth c b adC adM Q 1404 k0 [] (rC F N G) (rM F4 G4) := by
  obtain ⟨v, F4', G4', F', N', G', hm, hc, R2⟩ := P_load R (xs (k0 + 1))
  refine lj_a1 C dL_1404 ?_
  refine lj_arg C (k := 1) (hk 1 (by decide)) hL dL_1405 dL_1406 dL_1407 dL_1408 dL_1409 (by decide) ?_
  refine lj_callC (as := [.int (xs (k0 + 1))]) C X dL_1410 vX3_load (z_in (z_t3 198 (by decide +kernel)) rfl) (by decide) (Nat.le_of_ble_eq_true rfl) (fun _ => rfl) (fun _ => rfl) hc rfl rfl rfl rfl ?_
  refine lj_a2 C dL_1413 ?_
  refine lj_arg C (k := 1) (hk 1 (by decide)) hL dL_1414 dL_1415 dL_1416 dL_1417 dL_1418 (by decide) ?_
  refine lj_callM (as := [.int (xs (k0 + 1))]) C X dL_1419 vX4_load (z_in (z_t6 28 (by decide +kernel)) rfl) (by decide) (Nat.le_of_ble_eq_true rfl) (fun _ => rfl) (fun _ => rfl) hm rfl rfl rfl rfl ?_
  exact lj_eq C (tgt := 1535) dL_1422 (by decide) (kk _ _ _ _ _ R2)
theorem LC_42 (C : zl_C E D tA p s m meth c b L xs) (X : zl_G E s adC adM) {k0 : Nat} (hk : ∀ k, k < 6 → k0 + k < L) (hL : L ≤ 3072) (R : jR F4 G4 F N G) (kk : ∀ (F4 : Nat → Int32) (G4 : Nat → Nat → Int32) (F : Nat → Nat → Int32) (N : Nat → Nat → Int64) (G : Nat → Nat → Int32), jR F4 G4 F N G → Lj D tA p l e s m below meth c b adC adM Q 1535 k0 [] (rC F N G) (rM F4 G4)) : Lj D tA p l e s m below meth c b adC adM Q 1427 k0 [] (rC F N G) (rM F4 G4) := by
  obtain ⟨v, F4', G4', F', N', G', hm, hc, R2⟩ := P_judge R (xs (k0 + 1))
  refine lj_a1 C dL_1427 ?_
  refine lj_arg C (k := 1) (hk 1 (by decide)) hL dL_1428 dL_1429 dL_1430 dL_1431 dL_1432 (by decide) ?_
  refine lj_callC (as := [.int (xs (k0 + 1))]) C X dL_1433 vX3_judge (z_in (z_t3 202 (by decide +kernel)) rfl) (by decide) (Nat.le_of_ble_eq_true rfl) (fun _ => rfl) (fun _ => rfl) hc rfl rfl rfl rfl ?_
  refine lj_a2 C dL_1436 ?_
  refine lj_arg C (k := 1) (hk 1 (by decide)) hL dL_1437 dL_1438 dL_1439 dL_1440 dL_1441 (by decide) ?_
  refine lj_callM (as := [.int (xs (k0 + 1))]) C X dL_1442 vX4_judge (z_in (z_t6 32 (by decide +kernel)) rfl) (by decide) (Nat.le_of_ble_eq_true rfl) (fun _ => rfl) (fun _ => rfl) hm rfl rfl rfl rfl ?_
  exact lj_eq C (tgt := 1535) dL_1445 (by decide) (kk _ _ _ _ _ R2)
theorem LC_43 (C : zl_C E D tA p s m meth c b L xs) (X : zl_G E s adC adM) {k0 : Nat} (hk : ∀ k, k < 6 → k0 + k < L) (hL : L ≤ 3072) (R : jR F4 G4 F N G) (kk : ∀ (F4 : Nat → Int32) (G4 : Nat → Nat → Int32) (F : Nat → Nat → Int32) (N : Nat → Nat → Int64) (G : Nat → Nat → Int32), jR F4 G4 F N G → Lj D tA p l e s m below meth c b adC adM Q 1535 k0 [] (rC F N G) (rM F4 G4)) : Lj D tA p l e s m below meth c b adC adM Q 1450 k0 [] (rC F N G) (rM F4 G4) := by
  obtain ⟨v, F4', G4', F', N', G', hm, hc, R2⟩ := P_image R
  refine lj_a1 C dL_1450 ?_
  refine lj_callC (as := []) C X dL_1451 vX3_image (z_in (z_t3 210 (by decide +kernel)) rfl) (by decide) (Nat.le_of_ble_eq_true rfl) (fun _ => rfl) (fun _ => rfl) hc rfl rfl rfl rfl ?_
  refine lj_a2 C dL_1454 ?_
  refine lj_callM (as := []) C X dL_1455 vX4_image (z_in (z_t6 36 (by decide +kernel)) rfl) (by decide) (Nat.le_of_ble_eq_true rfl) (fun _ => rfl) (fun _ => rfl) hm rfl rfl rfl rfl ?_
  exact lj_eq C (tgt := 1535) dL_1458 (by decide) (kk _ _ _ _ _ R2)
theorem LC_44 (C : zl_C E D tA p s m meth c b L xs) (X : zl_G E s adC adM) {k0 : Nat} (hk : ∀ k, k < 6 → k0 + k < L) (hL : L ≤ 3072) (R : jR F4 G4 F N G) (kk : ∀ (F4 : Nat → Int32) (G4 : Nat → Nat → Int32) (F : Nat → Nat → Int32) (N : Nat → Nat → Int64) (G : Nat → Nat → Int32), jR F4 G4 F N G → Lj D tA p l e s m below meth c b adC adM Q 1535 k0 [] (rC F N G) (rM F4 G4)) : Lj D tA p l e s m below meth c b adC adM Q 1463 k0 [] (rC F N G) (rM F4 G4) := by
  obtain ⟨v, F4', G4', F', N', G', hm, hc, R2⟩ := P_undo R
  refine lj_a1 C dL_1463 ?_
  refine lj_callC (as := []) C X dL_1464 vX3_undo (z_in (z_t3 214 (by decide +kernel)) rfl) (by decide) (Nat.le_of_ble_eq_true rfl) (fun _ => rfl) (fun _ => rfl) hc rfl rfl rfl rfl ?_
  refine lj_a2 C dL_1467 ?_
  refine lj_callM (as := []) C X dL_1468 vX4_undo (z_in (z_t6 40 (by decide +kernel)) rfl) (by decide) (Nat.le_of_ble_eq_true rfl) (fun _ => rfl) (fun _ => rfl) hm rfl rfl rfl rfl ?_
  exact lj_eq C (tgt := 1535) dL_1471 (by decide) (kk _ _ _ _ _ R2)
theorem LC_45 (C : zl_C E D tA p s m meth c b L xs) (X : zl_G E s adC adM) {k0 : Nat} (hk : ∀ k, k < 6 → k0 + k < L) (hL : L ≤ 3072) (R : jR F4 G4 F N G) (kk : ∀ (F4 : Nat → Int32) (G4 : Nat → Nat → Int32) (F : Nat → Nat → Int32) (N : Nat → Nat → Int64) (G : Nat → Nat → Int32), jR F4 G4 F N G → Lj D tA p l e s m below meth c b adC adM Q 1535 k0 [] (rC F N G) (rM F4 G4)) : Lj D tA p l e s m below meth c b adC adM Q 1476 k0 [] (rC F N G) (rM F4 G4) := by
  obtain ⟨v, F4', G4', F', N', G', hm, hc, R2⟩ := P_tear R
  refine lj_a1 C dL_1476 ?_
  refine lj_callC (as := []) C X dL_1477 vX3_tear (z_in (z_t3 218 (by decide +kernel)) rfl) (by decide) (Nat.le_of_ble_eq_true rfl) (fun _ => rfl) (fun _ => rfl) hc rfl rfl rfl rfl ?_
  refine lj_a2 C dL_1480 ?_
  refine lj_callM (as := []) C X dL_1481 vX4_tear (z_in (z_t6 44 (by decide +kernel)) rfl) (by decide) (Nat.le_of_ble_eq_true rfl) (fun _ => rfl) (fun _ => rfl) hm rfl rfl rfl rfl ?_
  exact lj_eq C (tgt := 1535) dL_1484 (by decide) (kk _ _ _ _ _ R2)
theorem LC_46 (C : zl_C E D tA p s m meth c b L xs) (X : zl_G E s adC adM) {k0 : Nat} (hk : ∀ k, k < 6 → k0 + k < L) (hL : L ≤ 3072) (R : jR F4 G4 F N G) (kk : ∀ (F4 : Nat → Int32) (G4 : Nat → Nat → Int32) (F : Nat → Nat → Int32) (N : Nat → Nat → Int64) (G : Nat → Nat → Int32), jR F4 G4 F N G → Lj D tA p l e s m below meth c b adC adM Q 1535 k0 [] (rC F N G) (rM F4 G4)) : Lj D tA p l e s m below meth c b adC adM Q 1489 k0 [] (rC F N G) (rM F4 G4) := by
  obtain ⟨v, F4', G4', F', N', G', hm, hc, R2⟩ := P_count R (xs (k0 + 1))
  refine lj_a1 C dL_1489 ?_
  refine lj_arg C (k := 1) (hk 1 (by decide)) hL dL_1490 dL_1491 dL_1492 dL_1493 dL_1494 (by decide) ?_
  refine lj_callC (as := [.int (xs (k0 + 1))]) C X dL_1495 vX3_count (z_in (z_t3 222 (by decide +kernel)) rfl) (by decide) (Nat.le_of_ble_eq_true rfl) (fun _ => rfl) (fun _ => rfl) hc rfl rfl rfl rfl ?_
  refine lj_a2 C dL_1498 ?_
  refine lj_arg C (k := 1) (hk 1 (by decide)) hL dL_1499 dL_1500 dL_1501 dL_1502 dL_1503 (by decide) ?_
  refine lj_callM (as := [.int (xs (k0 + 1))]) C X dL_1504 vX4_count (z_in (z_t6 48 (by decide +kernel)) rfl) (by decide) (Nat.le_of_ble_eq_true rfl) (fun _ => rfl) (fun _ => rfl) hm rfl rfl rfl rfl ?_
  exact lj_eq C (tgt := 1535) dL_1507 (by decide) (kk _ _ _ _ _ R2)
theorem LC_47 (C : zl_C E D tA p s m meth c b L xs) (X : zl_G E s adC adM) {k0 : Nat} (hk : ∀ k, k < 6 → k0 + k < L) (hL : L ≤ 3072) (R : jR F4 G4 F N G) (kk : ∀ (F4 : Nat → Int32) (G4 : Nat → Nat → Int32) (F : Nat → Nat → Int32) (N : Nat → Nat → Int64) (G : Nat → Nat → Int32), jR F4 G4 F N G → Lj D tA p l e s m below meth c b adC adM Q 1535 k0 [] (rC F N G) (rM F4 G4)) : Lj D tA p l e s m below meth c b adC adM Q 1512 k0 [] (rC F N G) (rM F4 G4) := by
  obtain ⟨v, F4', G4', F', N', G', hm, hc, R2⟩ := P_status R (xs (k0 + 1))
  refine lj_a1 C dL_1512 ?_
  refine lj_arg C (k := 1) (hk 1 (by decide)) hL dL_1513 dL_1514 dL_1515 dL_1516 dL_1517 (by decide) ?_
  refine lj_callC (as := [.int (xs (k0 + 1))]) C X dL_1518 vX3_status (z_in (z_t3 230 (by decide +kernel)) rfl) (by decide) (Nat.le_of_ble_eq_true rfl) (fun _ => rfl) (fun _ => rfl) hc rfl rfl rfl rfl ?_
  refine lj_a2 C dL_1521 ?_
  refine lj_arg C (k := 1) (hk 1 (by decide)) hL dL_1522 dL_1523 dL_1524 dL_1525 dL_1526 (by decide) ?_
  refine lj_callM (as := [.int (xs (k0 + 1))]) C X dL_1527 vX4_status (z_in (z_t6 52 (by decide +kernel)) rfl) (by decide) (Nat.le_of_ble_eq_true rfl) (fun _ => rfl) (fun _ => rfl) hm rfl rfl rfl rfl ?_
  exact lj_eq C (tgt := 1535) dL_1530 (by decide) (kk _ _ _ _ _ R2)
end LC
