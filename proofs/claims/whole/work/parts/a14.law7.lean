/-! THE LAW: its cases. -/
set_option maxRecDepth 100000 in
theorem cs_addTeacher {l : Launch} {G : ux_G} {hh : List (Nat × Nat × Nat × Nat)} {b Ln : Nat} {xs : Nat → Int32} {P : Nat} {h : ux_H} {i u : Nat} (hR : RLw P h) (hP : P + 13000 ≤ 10000000) (hi : i + 6 ≤ Ln) (hL : Ln ≤ 3072) (hu : u ≤ 90000) (K : ∀ h9 u9, u9 ≤ u + 5 → RLw (P + 13000) h9 → ux_W l G (iW hh) room_1 (lZ G b Ln xs) 2870 [some (.ref (1000 + b)), some (.ref 176), some (.ref 192), some (.ref 202), some (.ref 203), some (.int (nI i)), none, none, none] [] h9 u9) : ux_W l G (iW hh) room_1 (lZ G b Ln xs) 249 [some (.ref (1000 + b)), some (.ref 176), some (.ref 192), some (.ref 202), some (.ref 203), some (.int (nI i)), none, none, none] [] h u := by
  obtain ⟨K9, R9, TA, TB, k100, hA, hB, hfin, hst⟩ := op_addTeacher (l := l) (G := G) (a := (xs (i + 1)).toInt) (b := (xs (i + 2)).toInt) hR hP (i_rg _) (i_rg _)
  refine g_aload_n dL_law_249 rfl ?_
  refine g_scr (k := 1) dL_law_250 dL_law_251 dL_law_253 dL_law_254 dL_law_255 rfl rfl rfl (by omega) hL ?_
  refine g_scr (k := 2) dL_law_256 dL_law_257 dL_law_259 dL_law_260 dL_law_261 rfl rfl rfl (by omega) hL ?_
  refine g_aload_n dL_law_262 rfl ?_
  refine g_callSX (rest := []) lL_162 kL_addTeacher hA dL_law_263 (List.cons_ne_nil _ _) rfl (ro_law (by decide) (by decide) (by decide) (by omega)) rfl (Nat.le_of_ble_eq_true rfl) (fun v h1 hq => ?_) (fun _ _ z => z.elim)
  obtain ⟨rfl, hout, hTA, hfr⟩ := hq
  dsimp only [Option.toList, List.cons_append, List.nil_append]
  refine s_iw dL_law_266 rfl rfl rfl ?_
  dsimp only [List.set]
  refine g_aload_n dL_law_268 rfl ?_
  refine g_scr (k := 1) dL_law_269 dL_law_270 dL_law_272 dL_law_273 dL_law_274 rfl rfl rfl (by omega) hL ?_
  refine g_scr (k := 2) dL_law_275 dL_law_276 dL_law_278 dL_law_279 dL_law_280 rfl rfl rfl (by omega) hL ?_
  refine g_callV (rest := []) lL_167 kX6_addTeacher (hB h1 hfr) dL_law_281 rfl rfl rfl rfl (ro_law (by decide) (by decide) (by decide) (by omega)) rfl (Nat.le_of_ble_eq_true rfl) (fun v h2 hq => ?_) (fun _ _ z => z.elim)
  obtain ⟨⟨x, rfl, hx⟩, h0, hTB, hfr2⟩ := hq
  dsimp only [Option.toList, List.cons_append, List.nil_append]
  exact lw_tail dL_law_284 dL_law_286 dL_law_287 dL_law_290 dL_law_292 dL_law_297 dL_law_299 dL_law_302 dL_law_303 dL_law_304 dL_law_305 dL_law_307 dL_law_308 dL_law_309 dL_law_314 (by decide) k100 (by omega) h0 hx (fun k0 => (hfr2 202 (Or.inr (by decide)) 0).trans (hout k0)) (K _ _ (by omega) (hfin _ (hst _ _ hTA (fun c hc j => hfr2 c (Or.inl hc) j)) hTB))
set_option maxRecDepth 100000 in
theorem cs_setLimit {l : Launch} {G : ux_G} {hh : List (Nat × Nat × Nat × Nat)} {b Ln : Nat} {xs : Nat → Int32} {P : Nat} {h : ux_H} {i u : Nat} (hR : RLw P h) (hP : P + 13000 ≤ 10000000) (hi : i + 6 ≤ Ln) (hL : Ln ≤ 3072) (hu : u ≤ 90000) (K : ∀ h9 u9, u9 ≤ u + 5 → RLw (P + 13000) h9 → ux_W l G (iW hh) room_1 (lZ G b Ln xs) 2870 [some (.ref (1000 + b)), some (.ref 176), some (.ref 192), some (.ref 202), some (.ref 203), some (.int (nI i)), none, none, none] [] h9 u9) : ux_W l G (iW hh) room_1 (lZ G b Ln xs) 317 [some (.ref (1000 + b)), some (.ref 176), some (.ref 192), some (.ref 202), some (.ref 203), some (.int (nI i)), none, none, none] [] h u := by
  obtain ⟨K9, R9, TA, TB, k100, hA, hB, hfin, hst⟩ := op_setLimit (l := l) (G := G) (a := (xs (i + 1)).toInt) (b := (xs (i + 2)).toInt) hR hP (i_rg _) (i_rg _)
  refine g_aload_n dL_law_317 rfl ?_
  refine g_scr (k := 1) dL_law_318 dL_law_319 dL_law_321 dL_law_322 dL_law_323 rfl rfl rfl (by omega) hL ?_
  refine g_scr (k := 2) dL_law_324 dL_law_325 dL_law_327 dL_law_328 dL_law_329 rfl rfl rfl (by omega) hL ?_
  refine g_aload_n dL_law_330 rfl ?_
  refine g_callSX (rest := []) lL_171 kL_setLimit hA dL_law_331 (List.cons_ne_nil _ _) rfl (ro_law (by decide) (by decide) (by decide) (by omega)) rfl (Nat.le_of_ble_eq_true rfl) (fun v h1 hq => ?_) (fun _ _ z => z.elim)
  obtain ⟨rfl, hout, hTA, hfr⟩ := hq
  dsimp only [Option.toList, List.cons_append, List.nil_append]
  refine s_iw dL_law_334 rfl rfl rfl ?_
  dsimp only [List.set]
  refine g_aload_n dL_law_336 rfl ?_
  refine g_scr (k := 1) dL_law_337 dL_law_338 dL_law_340 dL_law_341 dL_law_342 rfl rfl rfl (by omega) hL ?_
  refine g_scr (k := 2) dL_law_343 dL_law_344 dL_law_346 dL_law_347 dL_law_348 rfl rfl rfl (by omega) hL ?_
  refine g_callV (rest := []) lL_173 kX6_setLimit (hB h1 hfr) dL_law_349 rfl rfl rfl rfl (ro_law (by decide) (by decide) (by decide) (by omega)) rfl (Nat.le_of_ble_eq_true rfl) (fun v h2 hq => ?_) (fun _ _ z => z.elim)
  obtain ⟨⟨x, rfl, hx⟩, h0, hTB, hfr2⟩ := hq
  dsimp only [Option.toList, List.cons_append, List.nil_append]
  exact lw_tail dL_law_352 dL_law_354 dL_law_355 dL_law_358 dL_law_360 dL_law_365 dL_law_367 dL_law_370 dL_law_371 dL_law_372 dL_law_373 dL_law_375 dL_law_376 dL_law_377 dL_law_382 (by decide) k100 (by omega) h0 hx (fun k0 => (hfr2 202 (Or.inr (by decide)) 0).trans (hout k0)) (K _ _ (by omega) (hfin _ (hst _ _ hTA (fun c hc j => hfr2 c (Or.inl hc) j)) hTB))
set_option maxRecDepth 100000 in
theorem cs_setSize {l : Launch} {G : ux_G} {hh : List (Nat × Nat × Nat × Nat)} {b Ln : Nat} {xs : Nat → Int32} {P : Nat} {h : ux_H} {i u : Nat} (hR : RLw P h) (hP : P + 13000 ≤ 10000000) (hi : i + 6 ≤ Ln) (hL : Ln ≤ 3072) (hu : u ≤ 90000) (K : ∀ h9 u9, u9 ≤ u + 5 → RLw (P + 13000) h9 → ux_W l G (iW hh) room_1 (lZ G b Ln xs) 2870 [some (.ref (1000 + b)), some (.ref 176), some (.ref 192), some (.ref 202), some (.ref 203), some (.int (nI i)), none, none, none] [] h9 u9) : ux_W l G (iW hh) room_1 (lZ G b Ln xs) 385 [some (.ref (1000 + b)), some (.ref 176), some (.ref 192), some (.ref 202), some (.ref 203), some (.int (nI i)), none, none, none] [] h u := by
  obtain ⟨K9, R9, TA, TB, k100, hA, hB, hfin, hst⟩ := op_setSize (l := l) (G := G) (a := (xs (i + 1)).toInt) (b := (xs (i + 2)).toInt) hR hP (i_rg _) (i_rg _)
  refine g_aload_n dL_law_385 rfl ?_
  refine g_scr (k := 1) dL_law_386 dL_law_387 dL_law_389 dL_law_390 dL_law_391 rfl rfl rfl (by omega) hL ?_
  refine g_scr (k := 2) dL_law_392 dL_law_393 dL_law_395 dL_law_396 dL_law_397 rfl rfl rfl (by omega) hL ?_
  refine g_aload_n dL_law_398 rfl ?_
  refine g_callSX (rest := []) lL_174 kL_setSize hA dL_law_399 (List.cons_ne_nil _ _) rfl (ro_law (by decide) (by decide) (by decide) (by omega)) rfl (Nat.le_of_ble_eq_true rfl) (fun v h1 hq => ?_) (fun _ _ z => z.elim)
  obtain ⟨rfl, hout, hTA, hfr⟩ := hq
  dsimp only [Option.toList, List.cons_append, List.nil_append]
  refine s_iw dL_law_402 rfl rfl rfl ?_
  dsimp only [List.set]
  refine g_aload_n dL_law_404 rfl ?_
  refine g_scr (k := 1) dL_law_405 dL_law_406 dL_law_408 dL_law_409 dL_law_410 rfl rfl rfl (by omega) hL ?_
  refine g_scr (k := 2) dL_law_411 dL_law_412 dL_law_414 dL_law_415 dL_law_416 rfl rfl rfl (by omega) hL ?_
  refine g_callV (rest := []) lL_176 kX6_setSize (hB h1 hfr) dL_law_417 rfl rfl rfl rfl (ro_law (by decide) (by decide) (by decide) (by omega)) rfl (Nat.le_of_ble_eq_true rfl) (fun v h2 hq => ?_) (fun _ _ z => z.elim)
  obtain ⟨⟨x, rfl, hx⟩, h0, hTB, hfr2⟩ := hq
  dsimp only [Option.toList, List.cons_append, List.nil_append]
  exact lw_tail dL_law_420 dL_law_422 dL_law_423 dL_law_426 dL_law_428 dL_law_433 dL_law_435 dL_law_438 dL_law_439 dL_law_440 dL_law_441 dL_law_443 dL_law_444 dL_law_445 dL_law_450 (by decide) k100 (by omega) h0 hx (fun k0 => (hfr2 202 (Or.inr (by decide)) 0).trans (hout k0)) (K _ _ (by omega) (hfin _ (hst _ _ hTA (fun c hc j => hfr2 c (Or.inl hc) j)) hTB))
set_option maxRecDepth 100000 in
theorem cs_setCapacity {l : Launch} {G : ux_G} {hh : List (Nat × Nat × Nat × Nat)} {b Ln : Nat} {xs : Nat → Int32} {P : Nat} {h : ux_H} {i u : Nat} (hR : RLw P h) (hP : P + 13000 ≤ 10000000) (hi : i + 6 ≤ Ln) (hL : Ln ≤ 3072) (hu : u ≤ 90000) (K : ∀ h9 u9, u9 ≤ u + 5 → RLw (P + 13000) h9 → ux_W l G (iW hh) room_1 (lZ G b Ln xs) 2870 [some (.ref (1000 + b)), some (.ref 176), some (.ref 192), some (.ref 202), some (.ref 203), some (.int (nI i)), none, none, none] [] h9 u9) : ux_W l G (iW hh) room_1 (lZ G b Ln xs) 453 [some (.ref (1000 + b)), some (.ref 176), some (.ref 192), some (.ref 202), some (.ref 203), some (.int (nI i)), none, none, none] [] h u := by
  obtain ⟨K9, R9, TA, TB, k100, hA, hB, hfin, hst⟩ := op_setCapacity (l := l) (G := G) (a := (xs (i + 1)).toInt) (b := (xs (i + 2)).toInt) hR hP (i_rg _) (i_rg _)
  refine g_aload_n dL_law_453 rfl ?_
  refine g_scr (k := 1) dL_law_454 dL_law_455 dL_law_457 dL_law_458 dL_law_459 rfl rfl rfl (by omega) hL ?_
  refine g_scr (k := 2) dL_law_460 dL_law_461 dL_law_463 dL_law_464 dL_law_465 rfl rfl rfl (by omega) hL ?_
  refine g_aload_n dL_law_466 rfl ?_
  refine g_callSX (rest := []) lL_177 kL_setCapacity hA dL_law_467 (List.cons_ne_nil _ _) rfl (ro_law (by decide) (by decide) (by decide) (by omega)) rfl (Nat.le_of_ble_eq_true rfl) (fun v h1 hq => ?_) (fun _ _ z => z.elim)
  obtain ⟨rfl, hout, hTA, hfr⟩ := hq
  dsimp only [Option.toList, List.cons_append, List.nil_append]
  refine s_iw dL_law_470 rfl rfl rfl ?_
  dsimp only [List.set]
  refine g_aload_n dL_law_472 rfl ?_
  refine g_scr (k := 1) dL_law_473 dL_law_474 dL_law_476 dL_law_477 dL_law_478 rfl rfl rfl (by omega) hL ?_
  refine g_scr (k := 2) dL_law_479 dL_law_480 dL_law_482 dL_law_483 dL_law_484 rfl rfl rfl (by omega) hL ?_
  refine g_callV (rest := []) lL_179 kX6_setCapacity (hB h1 hfr) dL_law_485 rfl rfl rfl rfl (ro_law (by decide) (by decide) (by decide) (by omega)) rfl (Nat.le_of_ble_eq_true rfl) (fun v h2 hq => ?_) (fun _ _ z => z.elim)
  obtain ⟨⟨x, rfl, hx⟩, h0, hTB, hfr2⟩ := hq
  dsimp only [Option.toList, List.cons_append, List.nil_append]
  exact lw_tail dL_law_488 dL_law_490 dL_law_491 dL_law_494 dL_law_496 dL_law_501 dL_law_503 dL_law_506 dL_law_507 dL_law_508 dL_law_509 dL_law_511 dL_law_512 dL_law_513 dL_law_518 (by decide) k100 (by omega) h0 hx (fun k0 => (hfr2 202 (Or.inr (by decide)) 0).trans (hout k0)) (K _ _ (by omega) (hfin _ (hst _ _ hTA (fun c hc j => hfr2 c (Or.inl hc) j)) hTB))
set_option maxRecDepth 100000 in
theorem cs_addLesson {l : Launch} {G : ux_G} {hh : List (Nat × Nat × Nat × Nat)} {b Ln : Nat} {xs : Nat → Int32} {P : Nat} {h : ux_H} {i u : Nat} (hR : RLw P h) (hP : P + 13000 ≤ 10000000) (hi : i + 6 ≤ Ln) (hL : Ln ≤ 3072) (hu : u ≤ 90000) (K : ∀ h9 u9, u9 ≤ u + 5 → RLw (P + 13000) h9 → ux_W l G (iW hh) room_1 (lZ G b Ln xs) 2870 [some (.ref (1000 + b)), some (.ref 176), some (.ref 192), some (.ref 202), some (.ref 203), some (.int (nI i)), none, none, none] [] h9 u9) : ux_W l G (iW hh) room_1 (lZ G b Ln xs) 521 [some (.ref (1000 + b)), some (.ref 176), some (.ref 192), some (.ref 202), some (.ref 203), some (.int (nI i)), none, none, none] [] h u := by
  obtain ⟨K9, R9, TA, TB, k100, hA, hB, hfin, hst⟩ := op_addLesson (l := l) (G := G) (a := (xs (i + 1)).toInt) (b := (xs (i + 2)).toInt) (c := (xs (i + 3)).toInt) (d := (xs (i + 4)).toInt) (e := (xs (i + 5)).toInt) hR hP (i_rg _) (i_rg _) (i_rg _) (i_rg _) (i_rg _)
  refine g_aload_n dL_law_521 rfl ?_
  refine g_scr (k := 1) dL_law_522 dL_law_523 dL_law_525 dL_law_526 dL_law_527 rfl rfl rfl (by omega) hL ?_
  refine g_scr (k := 2) dL_law_528 dL_law_529 dL_law_531 dL_law_532 dL_law_533 rfl rfl rfl (by omega) hL ?_
  refine g_scr (k := 3) dL_law_534 dL_law_535 dL_law_537 dL_law_538 dL_law_539 rfl rfl rfl (by omega) hL ?_
  refine g_scr (k := 4) dL_law_540 dL_law_541 dL_law_543 dL_law_544 dL_law_545 rfl rfl rfl (by omega) hL ?_
  refine g_scr (k := 5) dL_law_546 dL_law_547 dL_law_549 dL_law_550 dL_law_551 rfl rfl rfl (by omega) hL ?_
  refine g_aload_n dL_law_552 rfl ?_
  refine g_callSX (rest := []) lL_180 kL_addLesson hA dL_law_553 (List.cons_ne_nil _ _) rfl (ro_law (by decide) (by decide) (by decide) (by omega)) rfl (Nat.le_of_ble_eq_true rfl) (fun v h1 hq => ?_) (fun _ _ z => z.elim)
  obtain ⟨rfl, hout, hTA, hfr⟩ := hq
  dsimp only [Option.toList, List.cons_append, List.nil_append]
  refine s_iw dL_law_556 rfl rfl rfl ?_
  dsimp only [List.set]
  refine g_aload_n dL_law_558 rfl ?_
  refine g_scr (k := 1) dL_law_559 dL_law_560 dL_law_562 dL_law_563 dL_law_564 rfl rfl rfl (by omega) hL ?_
  refine g_scr (k := 2) dL_law_565 dL_law_566 dL_law_568 dL_law_569 dL_law_570 rfl rfl rfl (by omega) hL ?_
  refine g_scr (k := 3) dL_law_571 dL_law_572 dL_law_574 dL_law_575 dL_law_576 rfl rfl rfl (by omega) hL ?_
  refine g_scr (k := 4) dL_law_577 dL_law_578 dL_law_580 dL_law_581 dL_law_582 rfl rfl rfl (by omega) hL ?_
  refine g_scr (k := 5) dL_law_583 dL_law_584 dL_law_586 dL_law_587 dL_law_588 rfl rfl rfl (by omega) hL ?_
  refine g_callV (rest := []) lL_183 kX6_addLesson (hB h1 hfr) dL_law_589 rfl rfl rfl rfl (ro_law (by decide) (by decide) (by decide) (by omega)) rfl (Nat.le_of_ble_eq_true rfl) (fun v h2 hq => ?_) (fun _ _ z => z.elim)
  obtain ⟨⟨x, rfl, hx⟩, h0, hTB, hfr2⟩ := hq
  dsimp only [Option.toList, List.cons_append, List.nil_append]
  exact lw_tail dL_law_592 dL_law_594 dL_law_595 dL_law_598 dL_law_600 dL_law_605 dL_law_607 dL_law_610 dL_law_611 dL_law_612 dL_law_613 dL_law_615 dL_law_616 dL_law_617 dL_law_622 (by decide) k100 (by omega) h0 hx (fun k0 => (hfr2 202 (Or.inr (by decide)) 0).trans (hout k0)) (K _ _ (by omega) (hfin _ (hst _ _ hTA (fun c hc j => hfr2 c (Or.inl hc) j)) hTB))
set_option maxRecDepth 100000 in
theorem cs_removeLesson {l : Launch} {G : ux_G} {hh : List (Nat × Nat × Nat × Nat)} {b Ln : Nat} {xs : Nat → Int32} {P : Nat} {h : ux_H} {i u : Nat} (hR : RLw P h) (hP : P + 13000 ≤ 10000000) (hi : i + 6 ≤ Ln) (hL : Ln ≤ 3072) (hu : u ≤ 90000) (K : ∀ h9 u9, u9 ≤ u + 5 → RLw (P + 13000) h9 → ux_W l G (iW hh) room_1 (lZ G b Ln xs) 2870 [some (.ref (1000 + b)), some (.ref 176), some (.ref 192), some (.ref 202), some (.ref 203), some (.int (nI i)), none, none, none] [] h9 u9) : ux_W l G (iW hh) room_1 (lZ G b Ln xs) 625 [some (.ref (1000 + b)), some (.ref 176), some (.ref 192), some (.ref 202), some (.ref 203), some (.int (nI i)), none, none, none] [] h u := by
  obtain ⟨K9, R9, TA, TB, k100, hA, hB, hfin, hst⟩ := op_removeLesson (l := l) (G := G) (a := (xs (i + 1)).toInt) hR hP (i_rg _)
  refine g_aload_n dL_law_625 rfl ?_
  refine g_scr (k := 1) dL_law_626 dL_law_627 dL_law_629 dL_law_630 dL_law_631 rfl rfl rfl (by omega) hL ?_
  refine g_aload_n dL_law_632 rfl ?_
  refine g_callSX (rest := []) lL_184 kL_removeLesson hA dL_law_633 (List.cons_ne_nil _ _) rfl (ro_law (by decide) (by decide) (by decide) (by omega)) rfl (Nat.le_of_ble_eq_true rfl) (fun v h1 hq => ?_) (fun _ _ z => z.elim)
  obtain ⟨rfl, hout, hTA, hfr⟩ := hq
  dsimp only [Option.toList, List.cons_append, List.nil_append]
  refine s_iw dL_law_636 rfl rfl rfl ?_
  dsimp only [List.set]
  refine g_aload_n dL_law_638 rfl ?_
  refine g_scr (k := 1) dL_law_639 dL_law_640 dL_law_642 dL_law_643 dL_law_644 rfl rfl rfl (by omega) hL ?_
  refine g_callV (rest := []) lL_187 kX6_removeLesson (hB h1 hfr) dL_law_645 rfl rfl rfl rfl (ro_law (by decide) (by decide) (by decide) (by omega)) rfl (Nat.le_of_ble_eq_true rfl) (fun v h2 hq => ?_) (fun _ _ z => z.elim)
  obtain ⟨⟨x, rfl, hx⟩, h0, hTB, hfr2⟩ := hq
  dsimp only [Option.toList, List.cons_append, List.nil_append]
  exact lw_tail dL_law_648 dL_law_650 dL_law_651 dL_law_654 dL_law_656 dL_law_661 dL_law_663 dL_law_666 dL_law_667 dL_law_668 dL_law_669 dL_law_671 dL_law_672 dL_law_673 dL_law_678 (by decide) k100 (by omega) h0 hx (fun k0 => (hfr2 202 (Or.inr (by decide)) 0).trans (hout k0)) (K _ _ (by omega) (hfin _ (hst _ _ hTA (fun c hc j => hfr2 c (Or.inl hc) j)) hTB))
set_option maxRecDepth 100000 in
theorem cs_setRoom {l : Launch} {G : ux_G} {hh : List (Nat × Nat × Nat × Nat)} {b Ln : Nat} {xs : Nat → Int32} {P : Nat} {h : ux_H} {i u : Nat} (hR : RLw P h) (hP : P + 13000 ≤ 10000000) (hi : i + 6 ≤ Ln) (hL : Ln ≤ 3072) (hu : u ≤ 90000) (K : ∀ h9 u9, u9 ≤ u + 5 → RLw (P + 13000) h9 → ux_W l G (iW hh) room_1 (lZ G b Ln xs) 2870 [some (.ref (1000 + b)), some (.ref 176), some (.ref 192), some (.ref 202), some (.ref 203), some (.int (nI i)), none, none, none] [] h9 u9) : ux_W l G (iW hh) room_1 (lZ G b Ln xs) 681 [some (.ref (1000 + b)), some (.ref 176), some (.ref 192), some (.ref 202), some (.ref 203), some (.int (nI i)), none, none, none] [] h u := by
  obtain ⟨K9, R9, TA, TB, k100, hA, hB, hfin, hst⟩ := op_setRoom (l := l) (G := G) (a := (xs (i + 1)).toInt) (b := (xs (i + 2)).toInt) hR hP (i_rg _) (i_rg _)
  refine g_aload_n dL_law_681 rfl ?_
  refine g_scr (k := 1) dL_law_682 dL_law_683 dL_law_685 dL_law_686 dL_law_687 rfl rfl rfl (by omega) hL ?_
  refine g_scr (k := 2) dL_law_688 dL_law_689 dL_law_691 dL_law_692 dL_law_693 rfl rfl rfl (by omega) hL ?_
  refine g_aload_n dL_law_694 rfl ?_
  refine g_callSX (rest := []) lL_188 kL_setRoom hA dL_law_695 (List.cons_ne_nil _ _) rfl (ro_law (by decide) (by decide) (by decide) (by omega)) rfl (Nat.le_of_ble_eq_true rfl) (fun v h1 hq => ?_) (fun _ _ z => z.elim)
  obtain ⟨rfl, hout, hTA, hfr⟩ := hq
  dsimp only [Option.toList, List.cons_append, List.nil_append]
  refine s_iw dL_law_698 rfl rfl rfl ?_
  dsimp only [List.set]
  refine g_aload_n dL_law_700 rfl ?_
  refine g_scr (k := 1) dL_law_701 dL_law_702 dL_law_704 dL_law_705 dL_law_706 rfl rfl rfl (by omega) hL ?_
  refine g_scr (k := 2) dL_law_707 dL_law_708 dL_law_710 dL_law_711 dL_law_712 rfl rfl rfl (by omega) hL ?_
  refine g_callV (rest := []) lL_190 kX6_setRoom (hB h1 hfr) dL_law_713 rfl rfl rfl rfl (ro_law (by decide) (by decide) (by decide) (by omega)) rfl (Nat.le_of_ble_eq_true rfl) (fun v h2 hq => ?_) (fun _ _ z => z.elim)
  obtain ⟨⟨x, rfl, hx⟩, h0, hTB, hfr2⟩ := hq
  dsimp only [Option.toList, List.cons_append, List.nil_append]
  exact lw_tail dL_law_716 dL_law_718 dL_law_719 dL_law_722 dL_law_724 dL_law_729 dL_law_731 dL_law_734 dL_law_735 dL_law_736 dL_law_737 dL_law_739 dL_law_740 dL_law_741 dL_law_746 (by decide) k100 (by omega) h0 hx (fun k0 => (hfr2 202 (Or.inr (by decide)) 0).trans (hout k0)) (K _ _ (by omega) (hfin _ (hst _ _ hTA (fun c hc j => hfr2 c (Or.inl hc) j)) hTB))
set_option maxRecDepth 100000 in
theorem cs_count {l : Launch} {G : ux_G} {hh : List (Nat × Nat × Nat × Nat)} {b Ln : Nat} {xs : Nat → Int32} {P : Nat} {h : ux_H} {i u : Nat} (hR : RLw P h) (hP : P + 13000 ≤ 10000000) (hi : i + 6 ≤ Ln) (hL : Ln ≤ 3072) (hu : u ≤ 90000) (K : ∀ h9 u9, u9 ≤ u + 5 → RLw (P + 13000) h9 → ux_W l G (iW hh) room_1 (lZ G b Ln xs) 2870 [some (.ref (1000 + b)), some (.ref 176), some (.ref 192), some (.ref 202), some (.ref 203), some (.int (nI i)), none, none, none] [] h9 u9) : ux_W l G (iW hh) room_1 (lZ G b Ln xs) 749 [some (.ref (1000 + b)), some (.ref 176), some (.ref 192), some (.ref 202), some (.ref 203), some (.int (nI i)), none, none, none] [] h u := by
  obtain ⟨K9, R9, TA, TB, k100, hA, hB, hfin, hst⟩ := op_count (l := l) (G := G) (w := (xs (i + 1)).toInt) hR hP (i_rg _)
  refine g_aload_n dL_law_749 rfl ?_
  refine g_scr (k := 1) dL_law_750 dL_law_751 dL_law_753 dL_law_754 dL_law_755 rfl rfl rfl (by omega) hL ?_
  refine g_aload_n dL_law_756 rfl ?_
  refine g_callSX (rest := []) lL_191 kL_count hA dL_law_757 (List.cons_ne_nil _ _) rfl (ro_law (by decide) (by decide) (by decide) (by omega)) rfl (Nat.le_of_ble_eq_true rfl) (fun v h1 hq => ?_) (fun _ _ z => z.elim)
  obtain ⟨rfl, hout, hTA, hfr⟩ := hq
  dsimp only [Option.toList, List.cons_append, List.nil_append]
  refine s_iw dL_law_760 rfl rfl rfl ?_
  dsimp only [List.set]
  refine g_aload_n dL_law_762 rfl ?_
  refine g_scr (k := 1) dL_law_763 dL_law_764 dL_law_766 dL_law_767 dL_law_768 rfl rfl rfl (by omega) hL ?_
  refine g_callV (rest := []) lL_193 kX6_count (hB h1 hfr) dL_law_769 rfl rfl rfl rfl (ro_law (by decide) (by decide) (by decide) (by omega)) rfl (Nat.le_of_ble_eq_true rfl) (fun v h2 hq => ?_) (fun _ _ z => z.elim)
  obtain ⟨⟨x, rfl, hx⟩, h0, hTB, hfr2⟩ := hq
  dsimp only [Option.toList, List.cons_append, List.nil_append]
  exact lw_tail dL_law_772 dL_law_774 dL_law_775 dL_law_778 dL_law_780 dL_law_785 dL_law_787 dL_law_790 dL_law_791 dL_law_792 dL_law_793 dL_law_795 dL_law_796 dL_law_797 dL_law_802 (by decide) k100 (by omega) h0 hx (fun k0 => (hfr2 202 (Or.inr (by decide)) 0).trans (hout k0)) (K _ _ (by omega) (hfin _ (hst _ _ hTA (fun c hc j => hfr2 c (Or.inl hc) j)) hTB))
set_option maxRecDepth 100000 in
theorem cs_lesson {l : Launch} {G : ux_G} {hh : List (Nat × Nat × Nat × Nat)} {b Ln : Nat} {xs : Nat → Int32} {P : Nat} {h : ux_H} {i u : Nat} (hR : RLw P h) (hP : P + 13000 ≤ 10000000) (hi : i + 6 ≤ Ln) (hL : Ln ≤ 3072) (hu : u ≤ 90000) (K : ∀ h9 u9, u9 ≤ u + 5 → RLw (P + 13000) h9 → ux_W l G (iW hh) room_1 (lZ G b Ln xs) 2870 [some (.ref (1000 + b)), some (.ref 176), some (.ref 192), some (.ref 202), some (.ref 203), some (.int (nI i)), none, none, none] [] h9 u9) : ux_W l G (iW hh) room_1 (lZ G b Ln xs) 805 [some (.ref (1000 + b)), some (.ref 176), some (.ref 192), some (.ref 202), some (.ref 203), some (.int (nI i)), none, none, none] [] h u := by
  obtain ⟨K9, R9, TA, TB, k100, hA, hB, hfin, hst⟩ := op_lesson (l := l) (G := G) (a := (xs (i + 1)).toInt) (w := (xs (i + 2)).toInt) hR hP (i_rg _) (i_rg _)
  refine g_aload_n dL_law_805 rfl ?_
  refine g_scr (k := 1) dL_law_806 dL_law_807 dL_law_809 dL_law_810 dL_law_811 rfl rfl rfl (by omega) hL ?_
  refine g_scr (k := 2) dL_law_812 dL_law_813 dL_law_815 dL_law_816 dL_law_817 rfl rfl rfl (by omega) hL ?_
  refine g_aload_n dL_law_818 rfl ?_
  refine g_callSX (rest := []) lL_194 kL_lesson hA dL_law_819 (List.cons_ne_nil _ _) rfl (ro_law (by decide) (by decide) (by decide) (by omega)) rfl (Nat.le_of_ble_eq_true rfl) (fun v h1 hq => ?_) (fun _ _ z => z.elim)
  obtain ⟨rfl, hout, hTA, hfr⟩ := hq
  dsimp only [Option.toList, List.cons_append, List.nil_append]
  refine s_iw dL_law_822 rfl rfl rfl ?_
  dsimp only [List.set]
  refine g_aload_n dL_law_824 rfl ?_
  refine g_scr (k := 1) dL_law_825 dL_law_826 dL_law_828 dL_law_829 dL_law_830 rfl rfl rfl (by omega) hL ?_
  refine g_scr (k := 2) dL_law_831 dL_law_832 dL_law_834 dL_law_835 dL_law_836 rfl rfl rfl (by omega) hL ?_
  refine g_callV (rest := []) lL_196 kX6_lesson (hB h1 hfr) dL_law_837 rfl rfl rfl rfl (ro_law (by decide) (by decide) (by decide) (by omega)) rfl (Nat.le_of_ble_eq_true rfl) (fun v h2 hq => ?_) (fun _ _ z => z.elim)
  obtain ⟨⟨x, rfl, hx⟩, h0, hTB, hfr2⟩ := hq
  dsimp only [Option.toList, List.cons_append, List.nil_append]
  exact lw_tail dL_law_840 dL_law_842 dL_law_843 dL_law_846 dL_law_848 dL_law_853 dL_law_855 dL_law_858 dL_law_859 dL_law_860 dL_law_861 dL_law_863 dL_law_864 dL_law_865 dL_law_870 (by decide) k100 (by omega) h0 hx (fun k0 => (hfr2 202 (Or.inr (by decide)) 0).trans (hout k0)) (K _ _ (by omega) (hfin _ (hst _ _ hTA (fun c hc j => hfr2 c (Or.inl hc) j)) hTB))
set_option maxRecDepth 100000 in
theorem cs_teacher {l : Launch} {G : ux_G} {hh : List (Nat × Nat × Nat × Nat)} {b Ln : Nat} {xs : Nat → Int32} {P : Nat} {h : ux_H} {i u : Nat} (hR : RLw P h) (hP : P + 13000 ≤ 10000000) (hi : i + 6 ≤ Ln) (hL : Ln ≤ 3072) (hu : u ≤ 90000) (K : ∀ h9 u9, u9 ≤ u + 5 → RLw (P + 13000) h9 → ux_W l G (iW hh) room_1 (lZ G b Ln xs) 2870 [some (.ref (1000 + b)), some (.ref 176), some (.ref 192), some (.ref 202), some (.ref 203), some (.int (nI i)), none, none, none] [] h9 u9) : ux_W l G (iW hh) room_1 (lZ G b Ln xs) 873 [some (.ref (1000 + b)), some (.ref 176), some (.ref 192), some (.ref 202), some (.ref 203), some (.int (nI i)), none, none, none] [] h u := by
  obtain ⟨K9, R9, TA, TB, k100, hA, hB, hfin, hst⟩ := op_teacher (l := l) (G := G) (a := (xs (i + 1)).toInt) (w := (xs (i + 2)).toInt) hR hP (i_rg _) (i_rg _)
  refine g_aload_n dL_law_873 rfl ?_
  refine g_scr (k := 1) dL_law_874 dL_law_875 dL_law_877 dL_law_878 dL_law_879 rfl rfl rfl (by omega) hL ?_
  refine g_scr (k := 2) dL_law_880 dL_law_881 dL_law_883 dL_law_884 dL_law_885 rfl rfl rfl (by omega) hL ?_
  refine g_aload_n dL_law_886 rfl ?_
  refine g_callSX (rest := []) lL_197 kL_teacher hA dL_law_887 (List.cons_ne_nil _ _) rfl (ro_law (by decide) (by decide) (by decide) (by omega)) rfl (Nat.le_of_ble_eq_true rfl) (fun v h1 hq => ?_) (fun _ _ z => z.elim)
  obtain ⟨rfl, hout, hTA, hfr⟩ := hq
  dsimp only [Option.toList, List.cons_append, List.nil_append]
  refine s_iw dL_law_890 rfl rfl rfl ?_
  dsimp only [List.set]
  refine g_aload_n dL_law_892 rfl ?_
  refine g_scr (k := 1) dL_law_893 dL_law_894 dL_law_896 dL_law_897 dL_law_898 rfl rfl rfl (by omega) hL ?_
  refine g_scr (k := 2) dL_law_899 dL_law_900 dL_law_902 dL_law_903 dL_law_904 rfl rfl rfl (by omega) hL ?_
  refine g_callV (rest := []) lL_199 kX6_teacher (hB h1 hfr) dL_law_905 rfl rfl rfl rfl (ro_law (by decide) (by decide) (by decide) (by omega)) rfl (Nat.le_of_ble_eq_true rfl) (fun v h2 hq => ?_) (fun _ _ z => z.elim)
  obtain ⟨⟨x, rfl, hx⟩, h0, hTB, hfr2⟩ := hq
  dsimp only [Option.toList, List.cons_append, List.nil_append]
  exact lw_tail dL_law_908 dL_law_910 dL_law_911 dL_law_914 dL_law_916 dL_law_921 dL_law_923 dL_law_926 dL_law_927 dL_law_928 dL_law_929 dL_law_931 dL_law_932 dL_law_933 dL_law_938 (by decide) k100 (by omega) h0 hx (fun k0 => (hfr2 202 (Or.inr (by decide)) 0).trans (hout k0)) (K _ _ (by omega) (hfin _ (hst _ _ hTA (fun c hc j => hfr2 c (Or.inl hc) j)) hTB))
set_option maxRecDepth 100000 in
theorem cs_lessonOf {l : Launch} {G : ux_G} {hh : List (Nat × Nat × Nat × Nat)} {b Ln : Nat} {xs : Nat → Int32} {P : Nat} {h : ux_H} {i u : Nat} (hR : RLw P h) (hP : P + 13000 ≤ 10000000) (hi : i + 6 ≤ Ln) (hL : Ln ≤ 3072) (hu : u ≤ 90000) (K : ∀ h9 u9, u9 ≤ u + 5 → RLw (P + 13000) h9 → ux_W l G (iW hh) room_1 (lZ G b Ln xs) 2870 [some (.ref (1000 + b)), some (.ref 176), some (.ref 192), some (.ref 202), some (.ref 203), some (.int (nI i)), none, none, none] [] h9 u9) : ux_W l G (iW hh) room_1 (lZ G b Ln xs) 941 [some (.ref (1000 + b)), some (.ref 176), some (.ref 192), some (.ref 202), some (.ref 203), some (.int (nI i)), none, none, none] [] h u := by
  obtain ⟨K9, R9, TA, TB, k100, hA, hB, hfin, hst⟩ := op_lessonOf (l := l) (G := G) (a := (xs (i + 1)).toInt) (b := (xs (i + 2)).toInt) hR hP (i_rg _) (i_rg _)
  refine g_aload_n dL_law_941 rfl ?_
  refine g_scr (k := 1) dL_law_942 dL_law_943 dL_law_945 dL_law_946 dL_law_947 rfl rfl rfl (by omega) hL ?_
  refine g_scr (k := 2) dL_law_948 dL_law_949 dL_law_951 dL_law_952 dL_law_953 rfl rfl rfl (by omega) hL ?_
  refine g_aload_n dL_law_954 rfl ?_
  refine g_callSX (rest := []) lL_200 kL_lessonOf hA dL_law_955 (List.cons_ne_nil _ _) rfl (ro_law (by decide) (by decide) (by decide) (by omega)) rfl (Nat.le_of_ble_eq_true rfl) (fun v h1 hq => ?_) (fun _ _ z => z.elim)
  obtain ⟨rfl, hout, hTA, hfr⟩ := hq
  dsimp only [Option.toList, List.cons_append, List.nil_append]
  refine s_iw dL_law_958 rfl rfl rfl ?_
  dsimp only [List.set]
  refine g_aload_n dL_law_960 rfl ?_
  refine g_scr (k := 1) dL_law_961 dL_law_962 dL_law_964 dL_law_965 dL_law_966 rfl rfl rfl (by omega) hL ?_
  refine g_scr (k := 2) dL_law_967 dL_law_968 dL_law_970 dL_law_971 dL_law_972 rfl rfl rfl (by omega) hL ?_
  refine g_callV (rest := []) lL_202 kX6_lessonOf (hB h1 hfr) dL_law_973 rfl rfl rfl rfl (ro_law (by decide) (by decide) (by decide) (by omega)) rfl (Nat.le_of_ble_eq_true rfl) (fun v h2 hq => ?_) (fun _ _ z => z.elim)
  obtain ⟨⟨x, rfl, hx⟩, h0, hTB, hfr2⟩ := hq
  dsimp only [Option.toList, List.cons_append, List.nil_append]
  exact lw_tail dL_law_976 dL_law_978 dL_law_979 dL_law_982 dL_law_984 dL_law_989 dL_law_991 dL_law_994 dL_law_995 dL_law_996 dL_law_997 dL_law_999 dL_law_1000 dL_law_1001 dL_law_1006 (by decide) k100 (by omega) h0 hx (fun k0 => (hfr2 202 (Or.inr (by decide)) 0).trans (hout k0)) (K _ _ (by omega) (hfin _ (hst _ _ hTA (fun c hc j => hfr2 c (Or.inl hc) j)) hTB))
set_option maxRecDepth 100000 in
theorem cs_setAbsent {l : Launch} {G : ux_G} {hh : List (Nat × Nat × Nat × Nat)} {b Ln : Nat} {xs : Nat → Int32} {P : Nat} {h : ux_H} {i u : Nat} (hR : RLw P h) (hP : P + 13000 ≤ 10000000) (hi : i + 6 ≤ Ln) (hL : Ln ≤ 3072) (hu : u ≤ 90000) (K : ∀ h9 u9, u9 ≤ u + 5 → RLw (P + 13000) h9 → ux_W l G (iW hh) room_1 (lZ G b Ln xs) 2870 [some (.ref (1000 + b)), some (.ref 176), some (.ref 192), some (.ref 202), some (.ref 203), some (.int (nI i)), none, none, none] [] h9 u9) : ux_W l G (iW hh) room_1 (lZ G b Ln xs) 1009 [some (.ref (1000 + b)), some (.ref 176), some (.ref 192), some (.ref 202), some (.ref 203), some (.int (nI i)), none, none, none] [] h u := by
  obtain ⟨K9, R9, TA, TB, k100, hA, hB, hfin, hst⟩ := op_setAbsent (l := l) (G := G) (a := (xs (i + 1)).toInt) (b := (xs (i + 2)).toInt) (z := decide (xs (i + 3) ≠ 0)) hR hP (i_rg _) (i_rg _)
  refine g_aload_n dL_law_1009 rfl ?_
  refine g_scr (k := 1) dL_law_1010 dL_law_1011 dL_law_1013 dL_law_1014 dL_law_1015 rfl rfl rfl (by omega) hL ?_
  refine g_scr (k := 2) dL_law_1016 dL_law_1017 dL_law_1019 dL_law_1020 dL_law_1021 rfl rfl rfl (by omega) hL ?_
  refine g_scr (k := 3) dL_law_1022 dL_law_1023 dL_law_1025 dL_law_1026 dL_law_1027 rfl rfl rfl (by omega) hL ?_
  rw [iI_self]
  refine g_bool dL_law_1028 dL_law_1031 dL_law_1032 dL_law_1035 ?_
  refine g_aload_n dL_law_1036 rfl ?_
  refine g_callSX (rest := []) lL_203 kL_setAbsent hA dL_law_1037 (List.cons_ne_nil _ _) rfl (ro_law (by decide) (by decide) (by decide) (by omega)) rfl (Nat.le_of_ble_eq_true rfl) (fun v h1 hq => ?_) (fun _ _ z => z.elim)
  obtain ⟨rfl, hout, hTA, hfr⟩ := hq
  dsimp only [Option.toList, List.cons_append, List.nil_append]
  refine s_iw dL_law_1040 rfl rfl rfl ?_
  dsimp only [List.set]
  refine g_aload_n dL_law_1042 rfl ?_
  refine g_scr (k := 1) dL_law_1043 dL_law_1044 dL_law_1046 dL_law_1047 dL_law_1048 rfl rfl rfl (by omega) hL ?_
  refine g_scr (k := 2) dL_law_1049 dL_law_1050 dL_law_1052 dL_law_1053 dL_law_1054 rfl rfl rfl (by omega) hL ?_
  refine g_scr (k := 3) dL_law_1055 dL_law_1056 dL_law_1058 dL_law_1059 dL_law_1060 rfl rfl rfl (by omega) hL ?_
  rw [iI_self]
  refine g_bool dL_law_1061 dL_law_1064 dL_law_1065 dL_law_1068 ?_
  refine g_callV (rest := []) lL_206 kX6_setAbsent (hB h1 hfr) dL_law_1069 rfl rfl rfl rfl (ro_law (by decide) (by decide) (by decide) (by omega)) rfl (Nat.le_of_ble_eq_true rfl) (fun v h2 hq => ?_) (fun _ _ z => z.elim)
  obtain ⟨⟨x, rfl, hx⟩, h0, hTB, hfr2⟩ := hq
  dsimp only [Option.toList, List.cons_append, List.nil_append]
  exact lw_tail dL_law_1072 dL_law_1074 dL_law_1075 dL_law_1078 dL_law_1080 dL_law_1085 dL_law_1087 dL_law_1090 dL_law_1091 dL_law_1092 dL_law_1093 dL_law_1095 dL_law_1096 dL_law_1097 dL_law_1102 (by decide) k100 (by omega) h0 hx (fun k0 => (hfr2 202 (Or.inr (by decide)) 0).trans (hout k0)) (K _ _ (by omega) (hfin _ (hst _ _ hTA (fun c hc j => hfr2 c (Or.inl hc) j)) hTB))
set_option maxRecDepth 100000 in
theorem cs_absent {l : Launch} {G : ux_G} {hh : List (Nat × Nat × Nat × Nat)} {b Ln : Nat} {xs : Nat → Int32} {P : Nat} {h : ux_H} {i u : Nat} (hR : RLw P h) (hP : P + 13000 ≤ 10000000) (hi : i + 6 ≤ Ln) (hL : Ln ≤ 3072) (hu : u ≤ 90000) (K : ∀ h9 u9, u9 ≤ u + 5 → RLw (P + 13000) h9 → ux_W l G (iW hh) room_1 (lZ G b Ln xs) 2870 [some (.ref (1000 + b)), some (.ref 176), some (.ref 192), some (.ref 202), some (.ref 203), some (.int (nI i)), none, none, none] [] h9 u9) : ux_W l G (iW hh) room_1 (lZ G b Ln xs) 1105 [some (.ref (1000 + b)), some (.ref 176), some (.ref 192), some (.ref 202), some (.ref 203), some (.int (nI i)), none, none, none] [] h u := by
  obtain ⟨K9, R9, TA, TB, k100, hA, hB, hfin, hst⟩ := op_absent (l := l) (G := G) (a := (xs (i + 1)).toInt) (b := (xs (i + 2)).toInt) hR hP (i_rg _) (i_rg _)
  refine g_aload_n dL_law_1105 rfl ?_
  refine g_scr (k := 1) dL_law_1106 dL_law_1107 dL_law_1109 dL_law_1110 dL_law_1111 rfl rfl rfl (by omega) hL ?_
  refine g_scr (k := 2) dL_law_1112 dL_law_1113 dL_law_1115 dL_law_1116 dL_law_1117 rfl rfl rfl (by omega) hL ?_
  refine g_aload_n dL_law_1118 rfl ?_
  refine g_callSX (rest := []) lL_207 kL_absent hA dL_law_1119 (List.cons_ne_nil _ _) rfl (ro_law (by decide) (by decide) (by decide) (by omega)) rfl (Nat.le_of_ble_eq_true rfl) (fun v h1 hq => ?_) (fun _ _ z => z.elim)
  obtain ⟨rfl, hout, hTA, hfr⟩ := hq
  dsimp only [Option.toList, List.cons_append, List.nil_append]
  refine s_iw dL_law_1122 rfl rfl rfl ?_
  dsimp only [List.set]
  refine g_aload_n dL_law_1124 rfl ?_
  refine g_scr (k := 1) dL_law_1125 dL_law_1126 dL_law_1128 dL_law_1129 dL_law_1130 rfl rfl rfl (by omega) hL ?_
  refine g_scr (k := 2) dL_law_1131 dL_law_1132 dL_law_1134 dL_law_1135 dL_law_1136 rfl rfl rfl (by omega) hL ?_
  refine g_callV (rest := []) lL_209 kX6_absent (hB h1 hfr) dL_law_1137 rfl rfl rfl rfl (ro_law (by decide) (by decide) (by decide) (by omega)) rfl (Nat.le_of_ble_eq_true rfl) (fun v h2 hq => ?_) (fun _ _ z => z.elim)
  obtain ⟨⟨x, rfl, hx⟩, h0, hTB, hfr2⟩ := hq
  dsimp only [Option.toList, List.cons_append, List.nil_append]
  exact lw_tail dL_law_1140 dL_law_1142 dL_law_1143 dL_law_1146 dL_law_1148 dL_law_1153 dL_law_1155 dL_law_1158 dL_law_1159 dL_law_1160 dL_law_1161 dL_law_1163 dL_law_1164 dL_law_1165 dL_law_1170 (by decide) k100 (by omega) h0 hx (fun k0 => (hfr2 202 (Or.inr (by decide)) 0).trans (hout k0)) (K _ _ (by omega) (hfin _ (hst _ _ hTA (fun c hc j => hfr2 c (Or.inl hc) j)) hTB))
set_option maxRecDepth 100000 in
theorem cs_free {l : Launch} {G : ux_G} {hh : List (Nat × Nat × Nat × Nat)} {b Ln : Nat} {xs : Nat → Int32} {P : Nat} {h : ux_H} {i u : Nat} (hR : RLw P h) (hP : P + 13000 ≤ 10000000) (hi : i + 6 ≤ Ln) (hL : Ln ≤ 3072) (hu : u ≤ 90000) (K : ∀ h9 u9, u9 ≤ u + 5 → RLw (P + 13000) h9 → ux_W l G (iW hh) room_1 (lZ G b Ln xs) 2870 [some (.ref (1000 + b)), some (.ref 176), some (.ref 192), some (.ref 202), some (.ref 203), some (.int (nI i)), none, none, none] [] h9 u9) : ux_W l G (iW hh) room_1 (lZ G b Ln xs) 1173 [some (.ref (1000 + b)), some (.ref 176), some (.ref 192), some (.ref 202), some (.ref 203), some (.int (nI i)), none, none, none] [] h u := by
  obtain ⟨K9, R9, TA, TB, k100, hA, hB, hfin, hst⟩ := op_free (l := l) (G := G) (a := (xs (i + 1)).toInt) (b := (xs (i + 2)).toInt) hR hP (i_rg _) (i_rg _)
  refine g_aload_n dL_law_1173 rfl ?_
  refine g_scr (k := 1) dL_law_1174 dL_law_1175 dL_law_1177 dL_law_1178 dL_law_1179 rfl rfl rfl (by omega) hL ?_
  refine g_scr (k := 2) dL_law_1180 dL_law_1181 dL_law_1183 dL_law_1184 dL_law_1185 rfl rfl rfl (by omega) hL ?_
  refine g_aload_n dL_law_1186 rfl ?_
  refine g_callSX (rest := []) lL_210 kL_free hA dL_law_1187 (List.cons_ne_nil _ _) rfl (ro_law (by decide) (by decide) (by decide) (by omega)) rfl (Nat.le_of_ble_eq_true rfl) (fun v h1 hq => ?_) (fun _ _ z => z.elim)
  obtain ⟨rfl, hout, hTA, hfr⟩ := hq
  dsimp only [Option.toList, List.cons_append, List.nil_append]
  refine s_iw dL_law_1190 rfl rfl rfl ?_
  dsimp only [List.set]
  refine g_aload_n dL_law_1192 rfl ?_
  refine g_scr (k := 1) dL_law_1193 dL_law_1194 dL_law_1196 dL_law_1197 dL_law_1198 rfl rfl rfl (by omega) hL ?_
  refine g_scr (k := 2) dL_law_1199 dL_law_1200 dL_law_1202 dL_law_1203 dL_law_1204 rfl rfl rfl (by omega) hL ?_
  refine g_callV (rest := []) lL_212 kX6_free (hB h1 hfr) dL_law_1205 rfl rfl rfl rfl (ro_law (by decide) (by decide) (by decide) (by omega)) rfl (Nat.le_of_ble_eq_true rfl) (fun v h2 hq => ?_) (fun _ _ z => z.elim)
  obtain ⟨⟨x, rfl, hx⟩, h0, hTB, hfr2⟩ := hq
  dsimp only [Option.toList, List.cons_append, List.nil_append]
  exact lw_tail dL_law_1208 dL_law_1210 dL_law_1211 dL_law_1214 dL_law_1216 dL_law_1221 dL_law_1223 dL_law_1226 dL_law_1227 dL_law_1228 dL_law_1229 dL_law_1231 dL_law_1232 dL_law_1233 dL_law_1238 (by decide) k100 (by omega) h0 hx (fun k0 => (hfr2 202 (Or.inr (by decide)) 0).trans (hout k0)) (K _ _ (by omega) (hfin _ (hst _ _ hTA (fun c hc j => hfr2 c (Or.inl hc) j)) hTB))
set_option maxRecDepth 100000 in
theorem cs_freeRooms {l : Launch} {G : ux_G} {hh : List (Nat × Nat × Nat × Nat)} {b Ln : Nat} {xs : Nat → Int32} {P : Nat} {h : ux_H} {i u : Nat} (hR : RLw P h) (hP : P + 13000 ≤ 10000000) (hi : i + 6 ≤ Ln) (hL : Ln ≤ 3072) (hu : u ≤ 90000) (K : ∀ h9 u9, u9 ≤ u + 5 → RLw (P + 13000) h9 → ux_W l G (iW hh) room_1 (lZ G b Ln xs) 2870 [some (.ref (1000 + b)), some (.ref 176), some (.ref 192), some (.ref 202), some (.ref 203), some (.int (nI i)), none, none, none] [] h9 u9) : ux_W l G (iW hh) room_1 (lZ G b Ln xs) 1241 [some (.ref (1000 + b)), some (.ref 176), some (.ref 192), some (.ref 202), some (.ref 203), some (.int (nI i)), none, none, none] [] h u := by
  obtain ⟨K9, R9, TA, TB, k100, hA, hB, hfin, hst⟩ := op_freeRooms (l := l) (G := G) (a := (xs (i + 1)).toInt) hR hP (i_rg _)
  refine g_aload_n dL_law_1241 rfl ?_
  refine g_scr (k := 1) dL_law_1242 dL_law_1243 dL_law_1245 dL_law_1246 dL_law_1247 rfl rfl rfl (by omega) hL ?_
  refine g_aload_n dL_law_1248 rfl ?_
  refine g_callSX (rest := []) lL_213 kL_freeRooms hA dL_law_1249 (List.cons_ne_nil _ _) rfl (ro_law (by decide) (by decide) (by decide) (by omega)) rfl (Nat.le_of_ble_eq_true rfl) (fun v h1 hq => ?_) (fun _ _ z => z.elim)
  obtain ⟨rfl, hout, hTA, hfr⟩ := hq
  dsimp only [Option.toList, List.cons_append, List.nil_append]
  refine s_iw dL_law_1252 rfl rfl rfl ?_
  dsimp only [List.set]
  refine g_aload_n dL_law_1254 rfl ?_
  refine g_scr (k := 1) dL_law_1255 dL_law_1256 dL_law_1258 dL_law_1259 dL_law_1260 rfl rfl rfl (by omega) hL ?_
  refine g_callV (rest := []) lL_215 kX6_freeRooms (hB h1 hfr) dL_law_1261 rfl rfl rfl rfl (ro_law (by decide) (by decide) (by decide) (by omega)) rfl (Nat.le_of_ble_eq_true rfl) (fun v h2 hq => ?_) (fun _ _ z => z.elim)
  obtain ⟨⟨x, rfl, hx⟩, h0, hTB, hfr2⟩ := hq
  dsimp only [Option.toList, List.cons_append, List.nil_append]
  exact lw_tail dL_law_1264 dL_law_1266 dL_law_1267 dL_law_1270 dL_law_1272 dL_law_1277 dL_law_1279 dL_law_1282 dL_law_1283 dL_law_1284 dL_law_1285 dL_law_1287 dL_law_1288 dL_law_1289 dL_law_1294 (by decide) k100 (by omega) h0 hx (fun k0 => (hfr2 202 (Or.inr (by decide)) 0).trans (hout k0)) (K _ _ (by omega) (hfin _ (hst _ _ hTA (fun c hc j => hfr2 c (Or.inl hc) j)) hTB))
set_option maxRecDepth 100000 in
theorem cs_openOn {l : Launch} {G : ux_G} {hh : List (Nat × Nat × Nat × Nat)} {b Ln : Nat} {xs : Nat → Int32} {P : Nat} {h : ux_H} {i u : Nat} (hR : RLw P h) (hP : P + 13000 ≤ 10000000) (hi : i + 6 ≤ Ln) (hL : Ln ≤ 3072) (hu : u ≤ 90000) (K : ∀ h9 u9, u9 ≤ u + 5 → RLw (P + 13000) h9 → ux_W l G (iW hh) room_1 (lZ G b Ln xs) 2870 [some (.ref (1000 + b)), some (.ref 176), some (.ref 192), some (.ref 202), some (.ref 203), some (.int (nI i)), none, none, none] [] h9 u9) : ux_W l G (iW hh) room_1 (lZ G b Ln xs) 1297 [some (.ref (1000 + b)), some (.ref 176), some (.ref 192), some (.ref 202), some (.ref 203), some (.int (nI i)), none, none, none] [] h u := by
  obtain ⟨K9, R9, TA, TB, k100, hA, hB, hfin, hst⟩ := op_openOn (l := l) (G := G) (a := (xs (i + 1)).toInt) hR hP (i_rg _)
  refine g_aload_n dL_law_1297 rfl ?_
  refine g_scr (k := 1) dL_law_1298 dL_law_1299 dL_law_1301 dL_law_1302 dL_law_1303 rfl rfl rfl (by omega) hL ?_
  refine g_aload_n dL_law_1304 rfl ?_
  refine g_callSX (rest := []) lL_216 kL_openOn hA dL_law_1305 (List.cons_ne_nil _ _) rfl (ro_law (by decide) (by decide) (by decide) (by omega)) rfl (Nat.le_of_ble_eq_true rfl) (fun v h1 hq => ?_) (fun _ _ z => z.elim)
  obtain ⟨rfl, hout, hTA, hfr⟩ := hq
  dsimp only [Option.toList, List.cons_append, List.nil_append]
  refine s_iw dL_law_1308 rfl rfl rfl ?_
  dsimp only [List.set]
  refine g_aload_n dL_law_1310 rfl ?_
  refine g_scr (k := 1) dL_law_1311 dL_law_1312 dL_law_1314 dL_law_1315 dL_law_1316 rfl rfl rfl (by omega) hL ?_
  refine g_callV (rest := []) lL_218 kX6_openOn (hB h1 hfr) dL_law_1317 rfl rfl rfl rfl (ro_law (by decide) (by decide) (by decide) (by omega)) rfl (Nat.le_of_ble_eq_true rfl) (fun v h2 hq => ?_) (fun _ _ z => z.elim)
  obtain ⟨⟨x, rfl, hx⟩, h0, hTB, hfr2⟩ := hq
  dsimp only [Option.toList, List.cons_append, List.nil_append]
  exact lw_tail dL_law_1320 dL_law_1322 dL_law_1323 dL_law_1326 dL_law_1328 dL_law_1333 dL_law_1335 dL_law_1338 dL_law_1339 dL_law_1340 dL_law_1341 dL_law_1343 dL_law_1344 dL_law_1345 dL_law_1350 (by decide) k100 (by omega) h0 hx (fun k0 => (hfr2 202 (Or.inr (by decide)) 0).trans (hout k0)) (K _ _ (by omega) (hfin _ (hst _ _ hTA (fun c hc j => hfr2 c (Or.inl hc) j)) hTB))
set_option maxRecDepth 100000 in
theorem cs_open {l : Launch} {G : ux_G} {hh : List (Nat × Nat × Nat × Nat)} {b Ln : Nat} {xs : Nat → Int32} {P : Nat} {h : ux_H} {i u : Nat} (hR : RLw P h) (hP : P + 13000 ≤ 10000000) (hi : i + 6 ≤ Ln) (hL : Ln ≤ 3072) (hu : u ≤ 90000) (K : ∀ h9 u9, u9 ≤ u + 5 → RLw (P + 13000) h9 → ux_W l G (iW hh) room_1 (lZ G b Ln xs) 2870 [some (.ref (1000 + b)), some (.ref 176), some (.ref 192), some (.ref 202), some (.ref 203), some (.int (nI i)), none, none, none] [] h9 u9) : ux_W l G (iW hh) room_1 (lZ G b Ln xs) 1353 [some (.ref (1000 + b)), some (.ref 176), some (.ref 192), some (.ref 202), some (.ref 203), some (.int (nI i)), none, none, none] [] h u := by
  obtain ⟨K9, R9, TA, TB, k100, hA, hB, hfin, hst⟩ := op_open (l := l) (G := G) (a := (xs (i + 1)).toInt) (b := (xs (i + 2)).toInt) hR hP (i_rg _) (i_rg _)
  refine g_aload_n dL_law_1353 rfl ?_
  refine g_scr (k := 1) dL_law_1354 dL_law_1355 dL_law_1357 dL_law_1358 dL_law_1359 rfl rfl rfl (by omega) hL ?_
  refine g_scr (k := 2) dL_law_1360 dL_law_1361 dL_law_1363 dL_law_1364 dL_law_1365 rfl rfl rfl (by omega) hL ?_
  refine g_aload_n dL_law_1366 rfl ?_
  refine g_callSX (rest := []) lL_219 kL_open hA dL_law_1367 (List.cons_ne_nil _ _) rfl (ro_law (by decide) (by decide) (by decide) (by omega)) rfl (Nat.le_of_ble_eq_true rfl) (fun v h1 hq => ?_) (fun _ _ z => z.elim)
  obtain ⟨rfl, hout, hTA, hfr⟩ := hq
  dsimp only [Option.toList, List.cons_append, List.nil_append]
  refine s_iw dL_law_1370 rfl rfl rfl ?_
  dsimp only [List.set]
  refine g_aload_n dL_law_1372 rfl ?_
  refine g_scr (k := 1) dL_law_1373 dL_law_1374 dL_law_1376 dL_law_1377 dL_law_1378 rfl rfl rfl (by omega) hL ?_
  refine g_scr (k := 2) dL_law_1379 dL_law_1380 dL_law_1382 dL_law_1383 dL_law_1384 rfl rfl rfl (by omega) hL ?_
  refine g_callV (rest := []) lL_221 kX6_open (hB h1 hfr) dL_law_1385 rfl rfl rfl rfl (ro_law (by decide) (by decide) (by decide) (by omega)) rfl (Nat.le_of_ble_eq_true rfl) (fun v h2 hq => ?_) (fun _ _ z => z.elim)
  obtain ⟨⟨x, rfl, hx⟩, h0, hTB, hfr2⟩ := hq
  dsimp only [Option.toList, List.cons_append, List.nil_append]
  exact lw_tail dL_law_1388 dL_law_1390 dL_law_1391 dL_law_1394 dL_law_1396 dL_law_1401 dL_law_1403 dL_law_1406 dL_law_1407 dL_law_1408 dL_law_1409 dL_law_1411 dL_law_1412 dL_law_1413 dL_law_1418 (by decide) k100 (by omega) h0 hx (fun k0 => (hfr2 202 (Or.inr (by decide)) 0).trans (hout k0)) (K _ _ (by omega) (hfin _ (hst _ _ hTA (fun c hc j => hfr2 c (Or.inl hc) j)) hTB))
set_option maxRecDepth 100000 in
theorem cs_why {l : Launch} {G : ux_G} {hh : List (Nat × Nat × Nat × Nat)} {b Ln : Nat} {xs : Nat → Int32} {P : Nat} {h : ux_H} {i u : Nat} (hR : RLw P h) (hP : P + 13000 ≤ 10000000) (hi : i + 6 ≤ Ln) (hL : Ln ≤ 3072) (hu : u ≤ 90000) (K : ∀ h9 u9, u9 ≤ u + 5 → RLw (P + 13000) h9 → ux_W l G (iW hh) room_1 (lZ G b Ln xs) 2870 [some (.ref (1000 + b)), some (.ref 176), some (.ref 192), some (.ref 202), some (.ref 203), some (.int (nI i)), none, none, none] [] h9 u9) : ux_W l G (iW hh) room_1 (lZ G b Ln xs) 1421 [some (.ref (1000 + b)), some (.ref 176), some (.ref 192), some (.ref 202), some (.ref 203), some (.int (nI i)), none, none, none] [] h u := by
  obtain ⟨K9, R9, TA, TB, k100, hA, hB, hfin, hst⟩ := op_why (l := l) (G := G) (a := (xs (i + 1)).toInt) (b := (xs (i + 2)).toInt) hR hP (i_rg _) (i_rg _)
  refine g_aload_n dL_law_1421 rfl ?_
  refine g_scr (k := 1) dL_law_1422 dL_law_1423 dL_law_1425 dL_law_1426 dL_law_1427 rfl rfl rfl (by omega) hL ?_
  refine g_scr (k := 2) dL_law_1428 dL_law_1429 dL_law_1431 dL_law_1432 dL_law_1433 rfl rfl rfl (by omega) hL ?_
  refine g_aload_n dL_law_1434 rfl ?_
  refine g_callSX (rest := []) lL_222 kL_why hA dL_law_1435 (List.cons_ne_nil _ _) rfl (ro_law (by decide) (by decide) (by decide) (by omega)) rfl (Nat.le_of_ble_eq_true rfl) (fun v h1 hq => ?_) (fun _ _ z => z.elim)
  obtain ⟨rfl, hout, hTA, hfr⟩ := hq
  dsimp only [Option.toList, List.cons_append, List.nil_append]
  refine s_iw dL_law_1438 rfl rfl rfl ?_
  dsimp only [List.set]
  refine g_aload_n dL_law_1440 rfl ?_
  refine g_scr (k := 1) dL_law_1441 dL_law_1442 dL_law_1444 dL_law_1445 dL_law_1446 rfl rfl rfl (by omega) hL ?_
  refine g_scr (k := 2) dL_law_1447 dL_law_1448 dL_law_1450 dL_law_1451 dL_law_1452 rfl rfl rfl (by omega) hL ?_
  refine g_callV (rest := []) lL_224 kX6_why (hB h1 hfr) dL_law_1453 rfl rfl rfl rfl (ro_law (by decide) (by decide) (by decide) (by omega)) rfl (Nat.le_of_ble_eq_true rfl) (fun v h2 hq => ?_) (fun _ _ z => z.elim)
  obtain ⟨⟨x, rfl, hx⟩, h0, hTB, hfr2⟩ := hq
  dsimp only [Option.toList, List.cons_append, List.nil_append]
  exact lw_tail dL_law_1456 dL_law_1458 dL_law_1459 dL_law_1462 dL_law_1464 dL_law_1469 dL_law_1471 dL_law_1474 dL_law_1475 dL_law_1476 dL_law_1477 dL_law_1479 dL_law_1480 dL_law_1481 dL_law_1486 (by decide) k100 (by omega) h0 hx (fun k0 => (hfr2 202 (Or.inr (by decide)) 0).trans (hout k0)) (K _ _ (by omega) (hfin _ (hst _ _ hTA (fun c hc j => hfr2 c (Or.inl hc) j)) hTB))
set_option maxRecDepth 100000 in
theorem cs_points {l : Launch} {G : ux_G} {hh : List (Nat × Nat × Nat × Nat)} {b Ln : Nat} {xs : Nat → Int32} {P : Nat} {h : ux_H} {i u : Nat} (hR : RLw P h) (hP : P + 13000 ≤ 10000000) (hi : i + 6 ≤ Ln) (hL : Ln ≤ 3072) (hu : u ≤ 90000) (K : ∀ h9 u9, u9 ≤ u + 5 → RLw (P + 13000) h9 → ux_W l G (iW hh) room_1 (lZ G b Ln xs) 2870 [some (.ref (1000 + b)), some (.ref 176), some (.ref 192), some (.ref 202), some (.ref 203), some (.int (nI i)), none, none, none] [] h9 u9) : ux_W l G (iW hh) room_1 (lZ G b Ln xs) 1489 [some (.ref (1000 + b)), some (.ref 176), some (.ref 192), some (.ref 202), some (.ref 203), some (.int (nI i)), none, none, none] [] h u := by
  obtain ⟨K9, R9, TA, TB, k100, hA, hB, hfin, hst⟩ := op_points (l := l) (G := G) (a := (xs (i + 1)).toInt) (b := (xs (i + 2)).toInt) hR hP (i_rg _) (i_rg _)
  refine g_aload_n dL_law_1489 rfl ?_
  refine g_scr (k := 1) dL_law_1490 dL_law_1491 dL_law_1493 dL_law_1494 dL_law_1495 rfl rfl rfl (by omega) hL ?_
  refine g_scr (k := 2) dL_law_1496 dL_law_1497 dL_law_1499 dL_law_1500 dL_law_1501 rfl rfl rfl (by omega) hL ?_
  refine g_aload_n dL_law_1502 rfl ?_
  refine g_callSX (rest := []) lL_225 kL_points hA dL_law_1503 (List.cons_ne_nil _ _) rfl (ro_law (by decide) (by decide) (by decide) (by omega)) rfl (Nat.le_of_ble_eq_true rfl) (fun v h1 hq => ?_) (fun _ _ z => z.elim)
  obtain ⟨rfl, hout, hTA, hfr⟩ := hq
  dsimp only [Option.toList, List.cons_append, List.nil_append]
  refine s_iw dL_law_1506 rfl rfl rfl ?_
  dsimp only [List.set]
  refine g_aload_n dL_law_1508 rfl ?_
  refine g_scr (k := 1) dL_law_1509 dL_law_1510 dL_law_1512 dL_law_1513 dL_law_1514 rfl rfl rfl (by omega) hL ?_
  refine g_scr (k := 2) dL_law_1515 dL_law_1516 dL_law_1518 dL_law_1519 dL_law_1520 rfl rfl rfl (by omega) hL ?_
  refine g_callV (rest := []) lL_227 kX6_points (hB h1 hfr) dL_law_1521 rfl rfl rfl rfl (ro_law (by decide) (by decide) (by decide) (by omega)) rfl (Nat.le_of_ble_eq_true rfl) (fun v h2 hq => ?_) (fun _ _ z => z.elim)
  obtain ⟨⟨x, rfl, hx⟩, h0, hTB, hfr2⟩ := hq
  dsimp only [Option.toList, List.cons_append, List.nil_append]
  exact lw_tail dL_law_1524 dL_law_1526 dL_law_1527 dL_law_1530 dL_law_1532 dL_law_1537 dL_law_1539 dL_law_1542 dL_law_1543 dL_law_1544 dL_law_1545 dL_law_1547 dL_law_1548 dL_law_1549 dL_law_1554 (by decide) k100 (by omega) h0 hx (fun k0 => (hfr2 202 (Or.inr (by decide)) 0).trans (hout k0)) (K _ _ (by omega) (hfin _ (hst _ _ hTA (fun c hc j => hfr2 c (Or.inl hc) j)) hTB))
set_option maxRecDepth 100000 in
theorem cs_suggestion {l : Launch} {G : ux_G} {hh : List (Nat × Nat × Nat × Nat)} {b Ln : Nat} {xs : Nat → Int32} {P : Nat} {h : ux_H} {i u : Nat} (hR : RLw P h) (hP : P + 13000 ≤ 10000000) (hi : i + 6 ≤ Ln) (hL : Ln ≤ 3072) (hu : u ≤ 90000) (K : ∀ h9 u9, u9 ≤ u + 5 → RLw (P + 13000) h9 → ux_W l G (iW hh) room_1 (lZ G b Ln xs) 2870 [some (.ref (1000 + b)), some (.ref 176), some (.ref 192), some (.ref 202), some (.ref 203), some (.int (nI i)), none, none, none] [] h9 u9) : ux_W l G (iW hh) room_1 (lZ G b Ln xs) 1557 [some (.ref (1000 + b)), some (.ref 176), some (.ref 192), some (.ref 202), some (.ref 203), some (.int (nI i)), none, none, none] [] h u := by
  obtain ⟨K9, R9, TA, TB, k100, hA, hB, hfin, hst⟩ := op_suggestion (l := l) (G := G) (a := (xs (i + 1)).toInt) hR hP (i_rg _)
  refine g_aload_n dL_law_1557 rfl ?_
  refine g_scr (k := 1) dL_law_1558 dL_law_1559 dL_law_1561 dL_law_1562 dL_law_1563 rfl rfl rfl (by omega) hL ?_
  refine g_aload_n dL_law_1564 rfl ?_
  refine g_callSX (rest := []) lL_228 kL_suggestion hA dL_law_1565 (List.cons_ne_nil _ _) rfl (ro_law (by decide) (by decide) (by decide) (by omega)) rfl (Nat.le_of_ble_eq_true rfl) (fun v h1 hq => ?_) (fun _ _ z => z.elim)
  obtain ⟨rfl, hout, hTA, hfr⟩ := hq
  dsimp only [Option.toList, List.cons_append, List.nil_append]
  refine s_iw dL_law_1568 rfl rfl rfl ?_
  dsimp only [List.set]
  refine g_aload_n dL_law_1570 rfl ?_
  refine g_scr (k := 1) dL_law_1571 dL_law_1572 dL_law_1574 dL_law_1575 dL_law_1576 rfl rfl rfl (by omega) hL ?_
  refine g_callV (rest := []) lL_230 kX6_suggestion (hB h1 hfr) dL_law_1577 rfl rfl rfl rfl (ro_law (by decide) (by decide) (by decide) (by omega)) rfl (Nat.le_of_ble_eq_true rfl) (fun v h2 hq => ?_) (fun _ _ z => z.elim)
  obtain ⟨⟨x, rfl, hx⟩, h0, hTB, hfr2⟩ := hq
  dsimp only [Option.toList, List.cons_append, List.nil_append]
  exact lw_tail dL_law_1580 dL_law_1582 dL_law_1583 dL_law_1586 dL_law_1588 dL_law_1593 dL_law_1595 dL_law_1598 dL_law_1599 dL_law_1600 dL_law_1601 dL_law_1603 dL_law_1604 dL_law_1605 dL_law_1610 (by decide) k100 (by omega) h0 hx (fun k0 => (hfr2 202 (Or.inr (by decide)) 0).trans (hout k0)) (K _ _ (by omega) (hfin _ (hst _ _ hTA (fun c hc j => hfr2 c (Or.inl hc) j)) hTB))
set_option maxRecDepth 100000 in
theorem cs_cover {l : Launch} {G : ux_G} {hh : List (Nat × Nat × Nat × Nat)} {b Ln : Nat} {xs : Nat → Int32} {P : Nat} {h : ux_H} {i u : Nat} (hR : RLw P h) (hP : P + 13000 ≤ 10000000) (hi : i + 6 ≤ Ln) (hL : Ln ≤ 3072) (hu : u ≤ 90000) (K : ∀ h9 u9, u9 ≤ u + 5 → RLw (P + 13000) h9 → ux_W l G (iW hh) room_1 (lZ G b Ln xs) 2870 [some (.ref (1000 + b)), some (.ref 176), some (.ref 192), some (.ref 202), some (.ref 203), some (.int (nI i)), none, none, none] [] h9 u9) : ux_W l G (iW hh) room_1 (lZ G b Ln xs) 1613 [some (.ref (1000 + b)), some (.ref 176), some (.ref 192), some (.ref 202), some (.ref 203), some (.int (nI i)), none, none, none] [] h u := by
  obtain ⟨K9, R9, TA, TB, k100, hA, hB, hfin, hst⟩ := op_cover (l := l) (G := G) (a := (xs (i + 1)).toInt) (b := (xs (i + 2)).toInt) hR hP (i_rg _) (i_rg _)
  refine g_aload_n dL_law_1613 rfl ?_
  refine g_scr (k := 1) dL_law_1614 dL_law_1615 dL_law_1617 dL_law_1618 dL_law_1619 rfl rfl rfl (by omega) hL ?_
  refine g_scr (k := 2) dL_law_1620 dL_law_1621 dL_law_1623 dL_law_1624 dL_law_1625 rfl rfl rfl (by omega) hL ?_
  refine g_aload_n dL_law_1626 rfl ?_
  refine g_callSX (rest := []) lL_231 kL_cover hA dL_law_1627 (List.cons_ne_nil _ _) rfl (ro_law (by decide) (by decide) (by decide) (by omega)) rfl (Nat.le_of_ble_eq_true rfl) (fun v h1 hq => ?_) (fun _ _ z => z.elim)
  obtain ⟨rfl, hout, hTA, hfr⟩ := hq
  dsimp only [Option.toList, List.cons_append, List.nil_append]
  refine s_iw dL_law_1630 rfl rfl rfl ?_
  dsimp only [List.set]
  refine g_aload_n dL_law_1632 rfl ?_
  refine g_scr (k := 1) dL_law_1633 dL_law_1634 dL_law_1636 dL_law_1637 dL_law_1638 rfl rfl rfl (by omega) hL ?_
  refine g_scr (k := 2) dL_law_1639 dL_law_1640 dL_law_1642 dL_law_1643 dL_law_1644 rfl rfl rfl (by omega) hL ?_
  refine g_callV (rest := []) lL_233 kX6_cover (hB h1 hfr) dL_law_1645 rfl rfl rfl rfl (ro_law (by decide) (by decide) (by decide) (by omega)) rfl (Nat.le_of_ble_eq_true rfl) (fun v h2 hq => ?_) (fun _ _ z => z.elim)
  obtain ⟨⟨x, rfl, hx⟩, h0, hTB, hfr2⟩ := hq
  dsimp only [Option.toList, List.cons_append, List.nil_append]
  exact lw_tail dL_law_1648 dL_law_1650 dL_law_1651 dL_law_1654 dL_law_1656 dL_law_1661 dL_law_1663 dL_law_1666 dL_law_1667 dL_law_1668 dL_law_1669 dL_law_1671 dL_law_1672 dL_law_1673 dL_law_1678 (by decide) k100 (by omega) h0 hx (fun k0 => (hfr2 202 (Or.inr (by decide)) 0).trans (hout k0)) (K _ _ (by omega) (hfin _ (hst _ _ hTA (fun c hc j => hfr2 c (Or.inl hc) j)) hTB))
set_option maxRecDepth 100000 in
theorem cs_uncover {l : Launch} {G : ux_G} {hh : List (Nat × Nat × Nat × Nat)} {b Ln : Nat} {xs : Nat → Int32} {P : Nat} {h : ux_H} {i u : Nat} (hR : RLw P h) (hP : P + 13000 ≤ 10000000) (hi : i + 6 ≤ Ln) (hL : Ln ≤ 3072) (hu : u ≤ 90000) (K : ∀ h9 u9, u9 ≤ u + 5 → RLw (P + 13000) h9 → ux_W l G (iW hh) room_1 (lZ G b Ln xs) 2870 [some (.ref (1000 + b)), some (.ref 176), some (.ref 192), some (.ref 202), some (.ref 203), some (.int (nI i)), none, none, none] [] h9 u9) : ux_W l G (iW hh) room_1 (lZ G b Ln xs) 1681 [some (.ref (1000 + b)), some (.ref 176), some (.ref 192), some (.ref 202), some (.ref 203), some (.int (nI i)), none, none, none] [] h u := by
  obtain ⟨K9, R9, TA, TB, k100, hA, hB, hfin, hst⟩ := op_uncover (l := l) (G := G) (a := (xs (i + 1)).toInt) hR hP (i_rg _)
  refine g_aload_n dL_law_1681 rfl ?_
  refine g_scr (k := 1) dL_law_1682 dL_law_1683 dL_law_1685 dL_law_1686 dL_law_1687 rfl rfl rfl (by omega) hL ?_
  refine g_aload_n dL_law_1688 rfl ?_
  refine g_callSX (rest := []) lL_234 kL_uncover hA dL_law_1689 (List.cons_ne_nil _ _) rfl (ro_law (by decide) (by decide) (by decide) (by omega)) rfl (Nat.le_of_ble_eq_true rfl) (fun v h1 hq => ?_) (fun _ _ z => z.elim)
  obtain ⟨rfl, hout, hTA, hfr⟩ := hq
  dsimp only [Option.toList, List.cons_append, List.nil_append]
  refine s_iw dL_law_1692 rfl rfl rfl ?_
  dsimp only [List.set]
  refine g_aload_n dL_law_1694 rfl ?_
  refine g_scr (k := 1) dL_law_1695 dL_law_1696 dL_law_1698 dL_law_1699 dL_law_1700 rfl rfl rfl (by omega) hL ?_
  refine g_callV (rest := []) lL_236 kX6_uncover (hB h1 hfr) dL_law_1701 rfl rfl rfl rfl (ro_law (by decide) (by decide) (by decide) (by omega)) rfl (Nat.le_of_ble_eq_true rfl) (fun v h2 hq => ?_) (fun _ _ z => z.elim)
  obtain ⟨⟨x, rfl, hx⟩, h0, hTB, hfr2⟩ := hq
  dsimp only [Option.toList, List.cons_append, List.nil_append]
  exact lw_tail dL_law_1704 dL_law_1706 dL_law_1707 dL_law_1710 dL_law_1712 dL_law_1717 dL_law_1719 dL_law_1722 dL_law_1723 dL_law_1724 dL_law_1725 dL_law_1727 dL_law_1728 dL_law_1729 dL_law_1734 (by decide) k100 (by omega) h0 hx (fun k0 => (hfr2 202 (Or.inr (by decide)) 0).trans (hout k0)) (K _ _ (by omega) (hfin _ (hst _ _ hTA (fun c hc j => hfr2 c (Or.inl hc) j)) hTB))
set_option maxRecDepth 100000 in
theorem cs_split {l : Launch} {G : ux_G} {hh : List (Nat × Nat × Nat × Nat)} {b Ln : Nat} {xs : Nat → Int32} {P : Nat} {h : ux_H} {i u : Nat} (hR : RLw P h) (hP : P + 13000 ≤ 10000000) (hi : i + 6 ≤ Ln) (hL : Ln ≤ 3072) (hu : u ≤ 90000) (K : ∀ h9 u9, u9 ≤ u + 5 → RLw (P + 13000) h9 → ux_W l G (iW hh) room_1 (lZ G b Ln xs) 2870 [some (.ref (1000 + b)), some (.ref 176), some (.ref 192), some (.ref 202), some (.ref 203), some (.int (nI i)), none, none, none] [] h9 u9) : ux_W l G (iW hh) room_1 (lZ G b Ln xs) 1737 [some (.ref (1000 + b)), some (.ref 176), some (.ref 192), some (.ref 202), some (.ref 203), some (.int (nI i)), none, none, none] [] h u := by
  obtain ⟨K9, R9, TA, TB, k100, hA, hB, hfin, hst⟩ := op_split (l := l) (G := G) (a := (xs (i + 1)).toInt) (b := (xs (i + 2)).toInt) (c := (xs (i + 3)).toInt) hR hP (i_rg _) (i_rg _) (i_rg _)
  refine g_aload_n dL_law_1737 rfl ?_
  refine g_scr (k := 1) dL_law_1738 dL_law_1739 dL_law_1741 dL_law_1742 dL_law_1743 rfl rfl rfl (by omega) hL ?_
  refine g_scr (k := 2) dL_law_1744 dL_law_1745 dL_law_1747 dL_law_1748 dL_law_1749 rfl rfl rfl (by omega) hL ?_
  refine g_scr (k := 3) dL_law_1750 dL_law_1751 dL_law_1753 dL_law_1754 dL_law_1755 rfl rfl rfl (by omega) hL ?_
  refine g_aload_n dL_law_1756 rfl ?_
  refine g_callSX (rest := []) lL_237 kL_split hA dL_law_1757 (List.cons_ne_nil _ _) rfl (ro_law (by decide) (by decide) (by decide) (by omega)) rfl (Nat.le_of_ble_eq_true rfl) (fun v h1 hq => ?_) (fun _ _ z => z.elim)
  obtain ⟨rfl, hout, hTA, hfr⟩ := hq
  dsimp only [Option.toList, List.cons_append, List.nil_append]
  refine s_iw dL_law_1760 rfl rfl rfl ?_
  dsimp only [List.set]
  refine g_aload_n dL_law_1762 rfl ?_
  refine g_scr (k := 1) dL_law_1763 dL_law_1764 dL_law_1766 dL_law_1767 dL_law_1768 rfl rfl rfl (by omega) hL ?_
  refine g_scr (k := 2) dL_law_1769 dL_law_1770 dL_law_1772 dL_law_1773 dL_law_1774 rfl rfl rfl (by omega) hL ?_
  refine g_scr (k := 3) dL_law_1775 dL_law_1776 dL_law_1778 dL_law_1779 dL_law_1780 rfl rfl rfl (by omega) hL ?_
  refine g_callV (rest := []) lL_240 kX6_split (hB h1 hfr) dL_law_1781 rfl rfl rfl rfl (ro_law (by decide) (by decide) (by decide) (by omega)) rfl (Nat.le_of_ble_eq_true rfl) (fun v h2 hq => ?_) (fun _ _ z => z.elim)
  obtain ⟨⟨x, rfl, hx⟩, h0, hTB, hfr2⟩ := hq
  dsimp only [Option.toList, List.cons_append, List.nil_append]
  exact lw_tail dL_law_1784 dL_law_1786 dL_law_1787 dL_law_1790 dL_law_1792 dL_law_1797 dL_law_1799 dL_law_1802 dL_law_1803 dL_law_1804 dL_law_1805 dL_law_1807 dL_law_1808 dL_law_1809 dL_law_1814 (by decide) k100 (by omega) h0 hx (fun k0 => (hfr2 202 (Or.inr (by decide)) 0).trans (hout k0)) (K _ _ (by omega) (hfin _ (hst _ _ hTA (fun c hc j => hfr2 c (Or.inl hc) j)) hTB))
set_option maxRecDepth 100000 in
theorem cs_unsplit {l : Launch} {G : ux_G} {hh : List (Nat × Nat × Nat × Nat)} {b Ln : Nat} {xs : Nat → Int32} {P : Nat} {h : ux_H} {i u : Nat} (hR : RLw P h) (hP : P + 13000 ≤ 10000000) (hi : i + 6 ≤ Ln) (hL : Ln ≤ 3072) (hu : u ≤ 90000) (K : ∀ h9 u9, u9 ≤ u + 5 → RLw (P + 13000) h9 → ux_W l G (iW hh) room_1 (lZ G b Ln xs) 2870 [some (.ref (1000 + b)), some (.ref 176), some (.ref 192), some (.ref 202), some (.ref 203), some (.int (nI i)), none, none, none] [] h9 u9) : ux_W l G (iW hh) room_1 (lZ G b Ln xs) 1817 [some (.ref (1000 + b)), some (.ref 176), some (.ref 192), some (.ref 202), some (.ref 203), some (.int (nI i)), none, none, none] [] h u := by
  obtain ⟨K9, R9, TA, TB, k100, hA, hB, hfin, hst⟩ := op_unsplit (l := l) (G := G) (a := (xs (i + 1)).toInt) hR hP (i_rg _)
  refine g_aload_n dL_law_1817 rfl ?_
  refine g_scr (k := 1) dL_law_1818 dL_law_1819 dL_law_1821 dL_law_1822 dL_law_1823 rfl rfl rfl (by omega) hL ?_
  refine g_aload_n dL_law_1824 rfl ?_
  refine g_callSX (rest := []) lL_241 kL_unsplit hA dL_law_1825 (List.cons_ne_nil _ _) rfl (ro_law (by decide) (by decide) (by decide) (by omega)) rfl (Nat.le_of_ble_eq_true rfl) (fun v h1 hq => ?_) (fun _ _ z => z.elim)
  obtain ⟨rfl, hout, hTA, hfr⟩ := hq
  dsimp only [Option.toList, List.cons_append, List.nil_append]
  refine s_iw dL_law_1828 rfl rfl rfl ?_
  dsimp only [List.set]
  refine g_aload_n dL_law_1830 rfl ?_
  refine g_scr (k := 1) dL_law_1831 dL_law_1832 dL_law_1834 dL_law_1835 dL_law_1836 rfl rfl rfl (by omega) hL ?_
  refine g_callV (rest := []) lL_243 kX6_unsplit (hB h1 hfr) dL_law_1837 rfl rfl rfl rfl (ro_law (by decide) (by decide) (by decide) (by omega)) rfl (Nat.le_of_ble_eq_true rfl) (fun v h2 hq => ?_) (fun _ _ z => z.elim)
  obtain ⟨⟨x, rfl, hx⟩, h0, hTB, hfr2⟩ := hq
  dsimp only [Option.toList, List.cons_append, List.nil_append]
  exact lw_tail dL_law_1840 dL_law_1842 dL_law_1843 dL_law_1846 dL_law_1848 dL_law_1853 dL_law_1855 dL_law_1858 dL_law_1859 dL_law_1860 dL_law_1861 dL_law_1863 dL_law_1864 dL_law_1865 dL_law_1870 (by decide) k100 (by omega) h0 hx (fun k0 => (hfr2 202 (Or.inr (by decide)) 0).trans (hout k0)) (K _ _ (by omega) (hfin _ (hst _ _ hTA (fun c hc j => hfr2 c (Or.inl hc) j)) hTB))
set_option maxRecDepth 100000 in
theorem cs_host {l : Launch} {G : ux_G} {hh : List (Nat × Nat × Nat × Nat)} {b Ln : Nat} {xs : Nat → Int32} {P : Nat} {h : ux_H} {i u : Nat} (hR : RLw P h) (hP : P + 13000 ≤ 10000000) (hi : i + 6 ≤ Ln) (hL : Ln ≤ 3072) (hu : u ≤ 90000) (K : ∀ h9 u9, u9 ≤ u + 5 → RLw (P + 13000) h9 → ux_W l G (iW hh) room_1 (lZ G b Ln xs) 2870 [some (.ref (1000 + b)), some (.ref 176), some (.ref 192), some (.ref 202), some (.ref 203), some (.int (nI i)), none, none, none] [] h9 u9) : ux_W l G (iW hh) room_1 (lZ G b Ln xs) 1873 [some (.ref (1000 + b)), some (.ref 176), some (.ref 192), some (.ref 202), some (.ref 203), some (.int (nI i)), none, none, none] [] h u := by
  obtain ⟨K9, R9, TA, TB, k100, hA, hB, hfin, hst⟩ := op_host (l := l) (G := G) (a := (xs (i + 1)).toInt) (z := decide (xs (i + 2) ≠ 0)) hR hP (i_rg _)
  refine g_aload_n dL_law_1873 rfl ?_
  refine g_scr (k := 1) dL_law_1874 dL_law_1875 dL_law_1877 dL_law_1878 dL_law_1879 rfl rfl rfl (by omega) hL ?_
  refine g_scr (k := 2) dL_law_1880 dL_law_1881 dL_law_1883 dL_law_1884 dL_law_1885 rfl rfl rfl (by omega) hL ?_
  rw [iI_self]
  refine g_bool dL_law_1886 dL_law_1889 dL_law_1890 dL_law_1893 ?_
  refine g_aload_n dL_law_1894 rfl ?_
  refine g_callSX (rest := []) lL_244 kL_host hA dL_law_1895 (List.cons_ne_nil _ _) rfl (ro_law (by decide) (by decide) (by decide) (by omega)) rfl (Nat.le_of_ble_eq_true rfl) (fun v h1 hq => ?_) (fun _ _ z => z.elim)
  obtain ⟨rfl, hout, hTA, hfr⟩ := hq
  dsimp only [Option.toList, List.cons_append, List.nil_append]
  refine s_iw dL_law_1898 rfl rfl rfl ?_
  dsimp only [List.set]
  refine g_aload_n dL_law_1900 rfl ?_
  refine g_scr (k := 1) dL_law_1901 dL_law_1902 dL_law_1904 dL_law_1905 dL_law_1906 rfl rfl rfl (by omega) hL ?_
  refine g_scr (k := 2) dL_law_1907 dL_law_1908 dL_law_1910 dL_law_1911 dL_law_1912 rfl rfl rfl (by omega) hL ?_
  rw [iI_self]
  refine g_bool dL_law_1913 dL_law_1916 dL_law_1917 dL_law_1920 ?_
  refine g_callV (rest := []) lL_247 kX6_host (hB h1 hfr) dL_law_1921 rfl rfl rfl rfl (ro_law (by decide) (by decide) (by decide) (by omega)) rfl (Nat.le_of_ble_eq_true rfl) (fun v h2 hq => ?_) (fun _ _ z => z.elim)
  obtain ⟨⟨x, rfl, hx⟩, h0, hTB, hfr2⟩ := hq
  dsimp only [Option.toList, List.cons_append, List.nil_append]
  exact lw_tail dL_law_1924 dL_law_1926 dL_law_1927 dL_law_1930 dL_law_1932 dL_law_1937 dL_law_1939 dL_law_1942 dL_law_1943 dL_law_1944 dL_law_1945 dL_law_1947 dL_law_1948 dL_law_1949 dL_law_1954 (by decide) k100 (by omega) h0 hx (fun k0 => (hfr2 202 (Or.inr (by decide)) 0).trans (hout k0)) (K _ _ (by omega) (hfin _ (hst _ _ hTA (fun c hc j => hfr2 c (Or.inl hc) j)) hTB))
set_option maxRecDepth 100000 in
theorem cs_refusal {l : Launch} {G : ux_G} {hh : List (Nat × Nat × Nat × Nat)} {b Ln : Nat} {xs : Nat → Int32} {P : Nat} {h : ux_H} {i u : Nat} (hR : RLw P h) (hP : P + 13000 ≤ 10000000) (hi : i + 6 ≤ Ln) (hL : Ln ≤ 3072) (hu : u ≤ 90000) (K : ∀ h9 u9, u9 ≤ u + 5 → RLw (P + 13000) h9 → ux_W l G (iW hh) room_1 (lZ G b Ln xs) 2870 [some (.ref (1000 + b)), some (.ref 176), some (.ref 192), some (.ref 202), some (.ref 203), some (.int (nI i)), none, none, none] [] h9 u9) : ux_W l G (iW hh) room_1 (lZ G b Ln xs) 1957 [some (.ref (1000 + b)), some (.ref 176), some (.ref 192), some (.ref 202), some (.ref 203), some (.int (nI i)), none, none, none] [] h u := by
  obtain ⟨K9, R9, TA, TB, k100, hA, hB, hfin, hst⟩ := op_refusal (l := l) (G := G)  hR hP 
  refine g_aload_n dL_law_1957 rfl ?_
  refine g_aload_n dL_law_1958 rfl ?_
  refine g_callSX (rest := []) lL_248 kL_refusal hA dL_law_1959 (List.cons_ne_nil _ _) rfl (ro_law (by decide) (by decide) (by decide) (by omega)) rfl (Nat.le_of_ble_eq_true rfl) (fun v h1 hq => ?_) (fun _ _ z => z.elim)
  obtain ⟨rfl, hout, hTA, hfr⟩ := hq
  dsimp only [Option.toList, List.cons_append, List.nil_append]
  refine s_iw dL_law_1962 rfl rfl rfl ?_
  dsimp only [List.set]
  refine g_aload_n dL_law_1964 rfl ?_
  refine g_callV (rest := []) lL_251 kX6_refusal (hB h1 hfr) dL_law_1965 rfl rfl rfl rfl (ro_law (by decide) (by decide) (by decide) (by omega)) rfl (Nat.le_of_ble_eq_true rfl) (fun v h2 hq => ?_) (fun _ _ z => z.elim)
  obtain ⟨⟨x, rfl, hx⟩, h0, hTB, hfr2⟩ := hq
  dsimp only [Option.toList, List.cons_append, List.nil_append]
  exact lw_tail dL_law_1968 dL_law_1970 dL_law_1971 dL_law_1974 dL_law_1976 dL_law_1981 dL_law_1983 dL_law_1986 dL_law_1987 dL_law_1988 dL_law_1989 dL_law_1991 dL_law_1992 dL_law_1993 dL_law_1998 (by decide) k100 (by omega) h0 hx (fun k0 => (hfr2 202 (Or.inr (by decide)) 0).trans (hout k0)) (K _ _ (by omega) (hfin _ (hst _ _ hTA (fun c hc j => hfr2 c (Or.inl hc) j)) hTB))
set_option maxRecDepth 100000 in
theorem cs_coverDay {l : Launch} {G : ux_G} {hh : List (Nat × Nat × Nat × Nat)} {b Ln : Nat} {xs : Nat → Int32} {P : Nat} {h : ux_H} {i u : Nat} (hR : RLw P h) (hP : P + 13000 ≤ 10000000) (hi : i + 6 ≤ Ln) (hL : Ln ≤ 3072) (hu : u ≤ 90000) (K : ∀ h9 u9, u9 ≤ u + 5 → RLw (P + 13000) h9 → ux_W l G (iW hh) room_1 (lZ G b Ln xs) 2870 [some (.ref (1000 + b)), some (.ref 176), some (.ref 192), some (.ref 202), some (.ref 203), some (.int (nI i)), none, none, none] [] h9 u9) : ux_W l G (iW hh) room_1 (lZ G b Ln xs) 2001 [some (.ref (1000 + b)), some (.ref 176), some (.ref 192), some (.ref 202), some (.ref 203), some (.int (nI i)), none, none, none] [] h u := by
  obtain ⟨K9, R9, TA, TB, k100, hA, hB, hfin, hst⟩ := op_coverDay (l := l) (G := G) (a := (xs (i + 1)).toInt) hR hP (i_rg _)
  refine g_aload_n dL_law_2001 rfl ?_
  refine g_scr (k := 1) dL_law_2002 dL_law_2003 dL_law_2005 dL_law_2006 dL_law_2007 rfl rfl rfl (by omega) hL ?_
  refine g_aload_n dL_law_2008 rfl ?_
  refine g_callSX (rest := []) lL_252 kL_coverDay hA dL_law_2009 (List.cons_ne_nil _ _) rfl (ro_law (by decide) (by decide) (by decide) (by omega)) rfl (Nat.le_of_ble_eq_true rfl) (fun v h1 hq => ?_) (fun _ _ z => z.elim)
  obtain ⟨rfl, hout, hTA, hfr⟩ := hq
  dsimp only [Option.toList, List.cons_append, List.nil_append]
  refine s_iw dL_law_2012 rfl rfl rfl ?_
  dsimp only [List.set]
  refine g_aload_n dL_law_2014 rfl ?_
  refine g_scr (k := 1) dL_law_2015 dL_law_2016 dL_law_2018 dL_law_2019 dL_law_2020 rfl rfl rfl (by omega) hL ?_
  refine g_callV (rest := []) lL_254 kX6_coverDay (hB h1 hfr) dL_law_2021 rfl rfl rfl rfl (ro_law (by decide) (by decide) (by decide) (by omega)) rfl (Nat.le_of_ble_eq_true rfl) (fun v h2 hq => ?_) (fun _ _ z => z.elim)
  obtain ⟨⟨x, rfl, hx⟩, h0, hTB, hfr2⟩ := hq
  dsimp only [Option.toList, List.cons_append, List.nil_append]
  exact lw_tail dL_law_2024 dL_law_2026 dL_law_2027 dL_law_2030 dL_law_2032 dL_law_2037 dL_law_2039 dL_law_2042 dL_law_2043 dL_law_2044 dL_law_2045 dL_law_2047 dL_law_2048 dL_law_2049 dL_law_2054 (by decide) k100 (by omega) h0 hx (fun k0 => (hfr2 202 (Or.inr (by decide)) 0).trans (hout k0)) (K _ _ (by omega) (hfin _ (hst _ _ hTA (fun c hc j => hfr2 c (Or.inl hc) j)) hTB))
set_option maxRecDepth 100000 in
theorem cs_spread {l : Launch} {G : ux_G} {hh : List (Nat × Nat × Nat × Nat)} {b Ln : Nat} {xs : Nat → Int32} {P : Nat} {h : ux_H} {i u : Nat} (hR : RLw P h) (hP : P + 13000 ≤ 10000000) (hi : i + 6 ≤ Ln) (hL : Ln ≤ 3072) (hu : u ≤ 90000) (K : ∀ h9 u9, u9 ≤ u + 5 → RLw (P + 13000) h9 → ux_W l G (iW hh) room_1 (lZ G b Ln xs) 2870 [some (.ref (1000 + b)), some (.ref 176), some (.ref 192), some (.ref 202), some (.ref 203), some (.int (nI i)), none, none, none] [] h9 u9) : ux_W l G (iW hh) room_1 (lZ G b Ln xs) 2057 [some (.ref (1000 + b)), some (.ref 176), some (.ref 192), some (.ref 202), some (.ref 203), some (.int (nI i)), none, none, none] [] h u := by
  obtain ⟨K9, R9, TA, TB, k100, hA, hB, hfin, hst⟩ := op_spread (l := l) (G := G)  hR hP 
  refine g_aload_n dL_law_2057 rfl ?_
  refine g_aload_n dL_law_2058 rfl ?_
  refine g_callSX (rest := []) lL_255 kL_spread hA dL_law_2059 (List.cons_ne_nil _ _) rfl (ro_law (by decide) (by decide) (by decide) (by omega)) rfl (Nat.le_of_ble_eq_true rfl) (fun v h1 hq => ?_) (fun _ _ z => z.elim)
  obtain ⟨rfl, hout, hTA, hfr⟩ := hq
  dsimp only [Option.toList, List.cons_append, List.nil_append]
  refine s_iw dL_law_2062 rfl rfl rfl ?_
  dsimp only [List.set]
  refine g_aload_n dL_law_2064 rfl ?_
  refine g_callV (rest := []) lL_257 kX6_spread (hB h1 hfr) dL_law_2065 rfl rfl rfl rfl (ro_law (by decide) (by decide) (by decide) (by omega)) rfl (Nat.le_of_ble_eq_true rfl) (fun v h2 hq => ?_) (fun _ _ z => z.elim)
  obtain ⟨⟨x, rfl, hx⟩, h0, hTB, hfr2⟩ := hq
  dsimp only [Option.toList, List.cons_append, List.nil_append]
  exact lw_tail dL_law_2068 dL_law_2070 dL_law_2071 dL_law_2074 dL_law_2076 dL_law_2081 dL_law_2083 dL_law_2086 dL_law_2087 dL_law_2088 dL_law_2089 dL_law_2091 dL_law_2092 dL_law_2093 dL_law_2098 (by decide) k100 (by omega) h0 hx (fun k0 => (hfr2 202 (Or.inr (by decide)) 0).trans (hout k0)) (K _ _ (by omega) (hfin _ (hst _ _ hTA (fun c hc j => hfr2 c (Or.inl hc) j)) hTB))
set_option maxRecDepth 100000 in
theorem cs_extreme {l : Launch} {G : ux_G} {hh : List (Nat × Nat × Nat × Nat)} {b Ln : Nat} {xs : Nat → Int32} {P : Nat} {h : ux_H} {i u : Nat} (hR : RLw P h) (hP : P + 13000 ≤ 10000000) (hi : i + 6 ≤ Ln) (hL : Ln ≤ 3072) (hu : u ≤ 90000) (K : ∀ h9 u9, u9 ≤ u + 5 → RLw (P + 13000) h9 → ux_W l G (iW hh) room_1 (lZ G b Ln xs) 2870 [some (.ref (1000 + b)), some (.ref 176), some (.ref 192), some (.ref 202), some (.ref 203), some (.int (nI i)), none, none, none] [] h9 u9) : ux_W l G (iW hh) room_1 (lZ G b Ln xs) 2101 [some (.ref (1000 + b)), some (.ref 176), some (.ref 192), some (.ref 202), some (.ref 203), some (.int (nI i)), none, none, none] [] h u := by
  obtain ⟨K9, R9, TA, TB, k100, hA, hB, hfin, hst⟩ := op_extreme (l := l) (G := G) (z := decide (xs (i + 1) ≠ 0)) hR hP 
  refine g_aload_n dL_law_2101 rfl ?_
  refine g_scr (k := 1) dL_law_2102 dL_law_2103 dL_law_2105 dL_law_2106 dL_law_2107 rfl rfl rfl (by omega) hL ?_
  rw [iI_self]
  refine g_bool dL_law_2108 dL_law_2111 dL_law_2112 dL_law_2115 ?_
  refine g_aload_n dL_law_2116 rfl ?_
  refine g_callSX (rest := []) lL_258 kL_extreme hA dL_law_2117 (List.cons_ne_nil _ _) rfl (ro_law (by decide) (by decide) (by decide) (by omega)) rfl (Nat.le_of_ble_eq_true rfl) (fun v h1 hq => ?_) (fun _ _ z => z.elim)
  obtain ⟨rfl, hout, hTA, hfr⟩ := hq
  dsimp only [Option.toList, List.cons_append, List.nil_append]
  refine s_iw dL_law_2120 rfl rfl rfl ?_
  dsimp only [List.set]
  refine g_aload_n dL_law_2122 rfl ?_
  refine g_scr (k := 1) dL_law_2123 dL_law_2124 dL_law_2126 dL_law_2127 dL_law_2128 rfl rfl rfl (by omega) hL ?_
  rw [iI_self]
  refine g_bool dL_law_2129 dL_law_2132 dL_law_2133 dL_law_2136 ?_
  refine g_callV (rest := []) lL_261 kX6_extreme (hB h1 hfr) dL_law_2137 rfl rfl rfl rfl (ro_law (by decide) (by decide) (by decide) (by omega)) rfl (Nat.le_of_ble_eq_true rfl) (fun v h2 hq => ?_) (fun _ _ z => z.elim)
  obtain ⟨⟨x, rfl, hx⟩, h0, hTB, hfr2⟩ := hq
  dsimp only [Option.toList, List.cons_append, List.nil_append]
  exact lw_tail dL_law_2140 dL_law_2142 dL_law_2143 dL_law_2146 dL_law_2148 dL_law_2153 dL_law_2155 dL_law_2158 dL_law_2159 dL_law_2160 dL_law_2161 dL_law_2163 dL_law_2164 dL_law_2165 dL_law_2170 (by decide) k100 (by omega) h0 hx (fun k0 => (hfr2 202 (Or.inr (by decide)) 0).trans (hout k0)) (K _ _ (by omega) (hfin _ (hst _ _ hTA (fun c hc j => hfr2 c (Or.inl hc) j)) hTB))
set_option maxRecDepth 100000 in
theorem cs_plannedSpread {l : Launch} {G : ux_G} {hh : List (Nat × Nat × Nat × Nat)} {b Ln : Nat} {xs : Nat → Int32} {P : Nat} {h : ux_H} {i u : Nat} (hR : RLw P h) (hP : P + 13000 ≤ 10000000) (hi : i + 6 ≤ Ln) (hL : Ln ≤ 3072) (hu : u ≤ 90000) (K : ∀ h9 u9, u9 ≤ u + 5 → RLw (P + 13000) h9 → ux_W l G (iW hh) room_1 (lZ G b Ln xs) 2870 [some (.ref (1000 + b)), some (.ref 176), some (.ref 192), some (.ref 202), some (.ref 203), some (.int (nI i)), none, none, none] [] h9 u9) : ux_W l G (iW hh) room_1 (lZ G b Ln xs) 2173 [some (.ref (1000 + b)), some (.ref 176), some (.ref 192), some (.ref 202), some (.ref 203), some (.int (nI i)), none, none, none] [] h u := by
  obtain ⟨K9, R9, TA, TB, k100, hA, hB, hfin, hst⟩ := op_plannedSpread (l := l) (G := G) (a := (xs (i + 1)).toInt) hR hP (i_rg _)
  refine g_aload_n dL_law_2173 rfl ?_
  refine g_scr (k := 1) dL_law_2174 dL_law_2175 dL_law_2177 dL_law_2178 dL_law_2179 rfl rfl rfl (by omega) hL ?_
  refine g_aload_n dL_law_2180 rfl ?_
  refine g_callSX (rest := []) lL_262 kL_plannedSpread hA dL_law_2181 (List.cons_ne_nil _ _) rfl (ro_law (by decide) (by decide) (by decide) (by omega)) rfl (Nat.le_of_ble_eq_true rfl) (fun v h1 hq => ?_) (fun _ _ z => z.elim)
  obtain ⟨rfl, hout, hTA, hfr⟩ := hq
  dsimp only [Option.toList, List.cons_append, List.nil_append]
  refine s_iw dL_law_2184 rfl rfl rfl ?_
  dsimp only [List.set]
  refine g_aload_n dL_law_2186 rfl ?_
  refine g_scr (k := 1) dL_law_2187 dL_law_2188 dL_law_2190 dL_law_2191 dL_law_2192 rfl rfl rfl (by omega) hL ?_
  refine g_callV (rest := []) lL_264 kX6_plannedSpread (hB h1 hfr) dL_law_2193 rfl rfl rfl rfl (ro_law (by decide) (by decide) (by decide) (by omega)) rfl (Nat.le_of_ble_eq_true rfl) (fun v h2 hq => ?_) (fun _ _ z => z.elim)
  obtain ⟨⟨x, rfl, hx⟩, h0, hTB, hfr2⟩ := hq
  dsimp only [Option.toList, List.cons_append, List.nil_append]
  exact lw_tail dL_law_2196 dL_law_2198 dL_law_2199 dL_law_2202 dL_law_2204 dL_law_2209 dL_law_2211 dL_law_2214 dL_law_2215 dL_law_2216 dL_law_2217 dL_law_2219 dL_law_2220 dL_law_2221 dL_law_2226 (by decide) k100 (by omega) h0 hx (fun k0 => (hfr2 202 (Or.inr (by decide)) 0).trans (hout k0)) (K _ _ (by omega) (hfin _ (hst _ _ hTA (fun c hc j => hfr2 c (Or.inl hc) j)) hTB))
set_option maxRecDepth 100000 in
theorem cs_planned {l : Launch} {G : ux_G} {hh : List (Nat × Nat × Nat × Nat)} {b Ln : Nat} {xs : Nat → Int32} {P : Nat} {h : ux_H} {i u : Nat} (hR : RLw P h) (hP : P + 13000 ≤ 10000000) (hi : i + 6 ≤ Ln) (hL : Ln ≤ 3072) (hu : u ≤ 90000) (K : ∀ h9 u9, u9 ≤ u + 5 → RLw (P + 13000) h9 → ux_W l G (iW hh) room_1 (lZ G b Ln xs) 2870 [some (.ref (1000 + b)), some (.ref 176), some (.ref 192), some (.ref 202), some (.ref 203), some (.int (nI i)), none, none, none] [] h9 u9) : ux_W l G (iW hh) room_1 (lZ G b Ln xs) 2229 [some (.ref (1000 + b)), some (.ref 176), some (.ref 192), some (.ref 202), some (.ref 203), some (.int (nI i)), none, none, none] [] h u := by
  obtain ⟨K9, R9, TA, TB, k100, hA, hB, hfin, hst⟩ := op_planned (l := l) (G := G) (a := (xs (i + 1)).toInt) (b := (xs (i + 2)).toInt) hR hP (i_rg _) (i_rg _)
  refine g_aload_n dL_law_2229 rfl ?_
  refine g_scr (k := 1) dL_law_2230 dL_law_2231 dL_law_2233 dL_law_2234 dL_law_2235 rfl rfl rfl (by omega) hL ?_
  refine g_scr (k := 2) dL_law_2236 dL_law_2237 dL_law_2239 dL_law_2240 dL_law_2241 rfl rfl rfl (by omega) hL ?_
  refine g_aload_n dL_law_2242 rfl ?_
  refine g_callSX (rest := []) lL_265 kL_planned hA dL_law_2243 (List.cons_ne_nil _ _) rfl (ro_law (by decide) (by decide) (by decide) (by omega)) rfl (Nat.le_of_ble_eq_true rfl) (fun v h1 hq => ?_) (fun _ _ z => z.elim)
  obtain ⟨rfl, hout, hTA, hfr⟩ := hq
  dsimp only [Option.toList, List.cons_append, List.nil_append]
  refine s_iw dL_law_2246 rfl rfl rfl ?_
  dsimp only [List.set]
  refine g_aload_n dL_law_2248 rfl ?_
  refine g_scr (k := 1) dL_law_2249 dL_law_2250 dL_law_2252 dL_law_2253 dL_law_2254 rfl rfl rfl (by omega) hL ?_
  refine g_scr (k := 2) dL_law_2255 dL_law_2256 dL_law_2258 dL_law_2259 dL_law_2260 rfl rfl rfl (by omega) hL ?_
  refine g_callV (rest := []) lL_267 kX6_planned (hB h1 hfr) dL_law_2261 rfl rfl rfl rfl (ro_law (by decide) (by decide) (by decide) (by omega)) rfl (Nat.le_of_ble_eq_true rfl) (fun v h2 hq => ?_) (fun _ _ z => z.elim)
  obtain ⟨⟨x, rfl, hx⟩, h0, hTB, hfr2⟩ := hq
  dsimp only [Option.toList, List.cons_append, List.nil_append]
  exact lw_tail dL_law_2264 dL_law_2266 dL_law_2267 dL_law_2270 dL_law_2272 dL_law_2277 dL_law_2279 dL_law_2282 dL_law_2283 dL_law_2284 dL_law_2285 dL_law_2287 dL_law_2288 dL_law_2289 dL_law_2294 (by decide) k100 (by omega) h0 hx (fun k0 => (hfr2 202 (Or.inr (by decide)) 0).trans (hout k0)) (K _ _ (by omega) (hfin _ (hst _ _ hTA (fun c hc j => hfr2 c (Or.inl hc) j)) hTB))
set_option maxRecDepth 100000 in
theorem cs_carryOut {l : Launch} {G : ux_G} {hh : List (Nat × Nat × Nat × Nat)} {b Ln : Nat} {xs : Nat → Int32} {P : Nat} {h : ux_H} {i u : Nat} (hR : RLw P h) (hP : P + 13000 ≤ 10000000) (hi : i + 6 ≤ Ln) (hL : Ln ≤ 3072) (hu : u ≤ 90000) (K : ∀ h9 u9, u9 ≤ u + 5 → RLw (P + 13000) h9 → ux_W l G (iW hh) room_1 (lZ G b Ln xs) 2870 [some (.ref (1000 + b)), some (.ref 176), some (.ref 192), some (.ref 202), some (.ref 203), some (.int (nI i)), none, none, none] [] h9 u9) : ux_W l G (iW hh) room_1 (lZ G b Ln xs) 2297 [some (.ref (1000 + b)), some (.ref 176), some (.ref 192), some (.ref 202), some (.ref 203), some (.int (nI i)), none, none, none] [] h u := by
  obtain ⟨K9, R9, TA, TB, k100, hA, hB, hfin, hst⟩ := op_carryOut (l := l) (G := G) (a := (xs (i + 1)).toInt) hR hP (i_rg _)
  refine g_aload_n dL_law_2297 rfl ?_
  refine g_scr (k := 1) dL_law_2298 dL_law_2299 dL_law_2301 dL_law_2302 dL_law_2303 rfl rfl rfl (by omega) hL ?_
  refine g_aload_n dL_law_2304 rfl ?_
  refine g_callSX (rest := []) lL_268 kL_carryOut hA dL_law_2305 (List.cons_ne_nil _ _) rfl (ro_law (by decide) (by decide) (by decide) (by omega)) rfl (Nat.le_of_ble_eq_true rfl) (fun v h1 hq => ?_) (fun _ _ z => z.elim)
  obtain ⟨rfl, hout, hTA, hfr⟩ := hq
  dsimp only [Option.toList, List.cons_append, List.nil_append]
  refine s_iw dL_law_2308 rfl rfl rfl ?_
  dsimp only [List.set]
  refine g_aload_n dL_law_2310 rfl ?_
  refine g_scr (k := 1) dL_law_2311 dL_law_2312 dL_law_2314 dL_law_2315 dL_law_2316 rfl rfl rfl (by omega) hL ?_
  refine g_callV (rest := []) lL_270 kX6_carryOut (hB h1 hfr) dL_law_2317 rfl rfl rfl rfl (ro_law (by decide) (by decide) (by decide) (by omega)) rfl (Nat.le_of_ble_eq_true rfl) (fun v h2 hq => ?_) (fun _ _ z => z.elim)
  obtain ⟨⟨x, rfl, hx⟩, h0, hTB, hfr2⟩ := hq
  dsimp only [Option.toList, List.cons_append, List.nil_append]
  exact lw_tail dL_law_2320 dL_law_2322 dL_law_2323 dL_law_2326 dL_law_2328 dL_law_2333 dL_law_2335 dL_law_2338 dL_law_2339 dL_law_2340 dL_law_2341 dL_law_2343 dL_law_2344 dL_law_2345 dL_law_2350 (by decide) k100 (by omega) h0 hx (fun k0 => (hfr2 202 (Or.inr (by decide)) 0).trans (hout k0)) (K _ _ (by omega) (hfin _ (hst _ _ hTA (fun c hc j => hfr2 c (Or.inl hc) j)) hTB))
set_option maxRecDepth 100000 in
theorem cs_plans {l : Launch} {G : ux_G} {hh : List (Nat × Nat × Nat × Nat)} {b Ln : Nat} {xs : Nat → Int32} {P : Nat} {h : ux_H} {i u : Nat} (hR : RLw P h) (hP : P + 13000 ≤ 10000000) (hi : i + 6 ≤ Ln) (hL : Ln ≤ 3072) (hu : u ≤ 90000) (K : ∀ h9 u9, u9 ≤ u + 5 → RLw (P + 13000) h9 → ux_W l G (iW hh) room_1 (lZ G b Ln xs) 2870 [some (.ref (1000 + b)), some (.ref 176), some (.ref 192), some (.ref 202), some (.ref 203), some (.int (nI i)), none, none, none] [] h9 u9) : ux_W l G (iW hh) room_1 (lZ G b Ln xs) 2353 [some (.ref (1000 + b)), some (.ref 176), some (.ref 192), some (.ref 202), some (.ref 203), some (.int (nI i)), none, none, none] [] h u := by
  obtain ⟨K9, R9, TA, TB, k100, hA, hB, hfin, hst⟩ := op_plans (l := l) (G := G) (a := (xs (i + 1)).toInt) hR hP (i_rg _)
  refine g_aload_n dL_law_2353 rfl ?_
  refine g_scr (k := 1) dL_law_2354 dL_law_2355 dL_law_2357 dL_law_2358 dL_law_2359 rfl rfl rfl (by omega) hL ?_
  refine g_aload_n dL_law_2360 rfl ?_
  refine g_callSX (rest := []) lL_271 kL_plans hA dL_law_2361 (List.cons_ne_nil _ _) rfl (ro_law (by decide) (by decide) (by decide) (by omega)) rfl (Nat.le_of_ble_eq_true rfl) (fun v h1 hq => ?_) (fun _ _ z => z.elim)
  obtain ⟨rfl, hout, hTA, hfr⟩ := hq
  dsimp only [Option.toList, List.cons_append, List.nil_append]
  refine s_iw dL_law_2364 rfl rfl rfl ?_
  dsimp only [List.set]
  refine g_aload_n dL_law_2366 rfl ?_
  refine g_scr (k := 1) dL_law_2367 dL_law_2368 dL_law_2370 dL_law_2371 dL_law_2372 rfl rfl rfl (by omega) hL ?_
  refine g_callV (rest := []) lL_273 kX6_plans_ (hB h1 hfr) dL_law_2373 rfl rfl rfl rfl (ro_law (by decide) (by decide) (by decide) (by omega)) rfl (Nat.le_of_ble_eq_true rfl) (fun v h2 hq => ?_) (fun _ _ z => z.elim)
  obtain ⟨⟨x, rfl, hx⟩, h0, hTB, hfr2⟩ := hq
  dsimp only [Option.toList, List.cons_append, List.nil_append]
  exact lw_tail dL_law_2376 dL_law_2378 dL_law_2379 dL_law_2382 dL_law_2384 dL_law_2389 dL_law_2391 dL_law_2394 dL_law_2395 dL_law_2396 dL_law_2397 dL_law_2399 dL_law_2400 dL_law_2401 dL_law_2406 (by decide) k100 (by omega) h0 hx (fun k0 => (hfr2 202 (Or.inr (by decide)) 0).trans (hout k0)) (K _ _ (by omega) (hfin _ (hst _ _ hTA (fun c hc j => hfr2 c (Or.inl hc) j)) hTB))
set_option maxRecDepth 100000 in
theorem cs_lost {l : Launch} {G : ux_G} {hh : List (Nat × Nat × Nat × Nat)} {b Ln : Nat} {xs : Nat → Int32} {P : Nat} {h : ux_H} {i u : Nat} (hR : RLw P h) (hP : P + 13000 ≤ 10000000) (hi : i + 6 ≤ Ln) (hL : Ln ≤ 3072) (hu : u ≤ 90000) (K : ∀ h9 u9, u9 ≤ u + 5 → RLw (P + 13000) h9 → ux_W l G (iW hh) room_1 (lZ G b Ln xs) 2870 [some (.ref (1000 + b)), some (.ref 176), some (.ref 192), some (.ref 202), some (.ref 203), some (.int (nI i)), none, none, none] [] h9 u9) : ux_W l G (iW hh) room_1 (lZ G b Ln xs) 2499 [some (.ref (1000 + b)), some (.ref 176), some (.ref 192), some (.ref 202), some (.ref 203), some (.int (nI i)), none, none, none] [] h u := by
  obtain ⟨K9, R9, TA, TB, k100, hA, hB, hfin, hst⟩ := op_lost (l := l) (G := G) (a := (xs (i + 1)).toInt) hR hP (i_rg _)
  refine g_aload_n dL_law_2499 rfl ?_
  refine g_scr (k := 1) dL_law_2500 dL_law_2501 dL_law_2503 dL_law_2504 dL_law_2505 rfl rfl rfl (by omega) hL ?_
  refine g_aload_n dL_law_2506 rfl ?_
  refine g_callSX (rest := []) lL_282 kL_lost hA dL_law_2507 (List.cons_ne_nil _ _) rfl (ro_law (by decide) (by decide) (by decide) (by omega)) rfl (Nat.le_of_ble_eq_true rfl) (fun v h1 hq => ?_) (fun _ _ z => z.elim)
  obtain ⟨rfl, hout, hTA, hfr⟩ := hq
  dsimp only [Option.toList, List.cons_append, List.nil_append]
  refine s_iw dL_law_2510 rfl rfl rfl ?_
  dsimp only [List.set]
  refine g_aload_n dL_law_2512 rfl ?_
  refine g_scr (k := 1) dL_law_2513 dL_law_2514 dL_law_2516 dL_law_2517 dL_law_2518 rfl rfl rfl (by omega) hL ?_
  refine g_callV (rest := []) lL_284 kX6_lost (hB h1 hfr) dL_law_2519 rfl rfl rfl rfl (ro_law (by decide) (by decide) (by decide) (by omega)) rfl (Nat.le_of_ble_eq_true rfl) (fun v h2 hq => ?_) (fun _ _ z => z.elim)
  obtain ⟨⟨x, rfl, hx⟩, h0, hTB, hfr2⟩ := hq
  dsimp only [Option.toList, List.cons_append, List.nil_append]
  exact lw_tail dL_law_2522 dL_law_2524 dL_law_2525 dL_law_2528 dL_law_2530 dL_law_2535 dL_law_2537 dL_law_2540 dL_law_2541 dL_law_2542 dL_law_2543 dL_law_2545 dL_law_2546 dL_law_2547 dL_law_2552 (by decide) k100 (by omega) h0 hx (fun k0 => (hfr2 202 (Or.inr (by decide)) 0).trans (hout k0)) (K _ _ (by omega) (hfin _ (hst _ _ hTA (fun c hc j => hfr2 c (Or.inl hc) j)) hTB))
set_option maxRecDepth 100000 in
theorem cs_append {l : Launch} {G : ux_G} {hh : List (Nat × Nat × Nat × Nat)} {b Ln : Nat} {xs : Nat → Int32} {P : Nat} {h : ux_H} {i u : Nat} (hR : RLw P h) (hP : P + 13000 ≤ 10000000) (hi : i + 6 ≤ Ln) (hL : Ln ≤ 3072) (hu : u ≤ 90000) (K : ∀ h9 u9, u9 ≤ u + 5 → RLw (P + 13000) h9 → ux_W l G (iW hh) room_1 (lZ G b Ln xs) 2870 [some (.ref (1000 + b)), some (.ref 176), some (.ref 192), some (.ref 202), some (.ref 203), some (.int (nI i)), none, none, none] [] h9 u9) : ux_W l G (iW hh) room_1 (lZ G b Ln xs) 2555 [some (.ref (1000 + b)), some (.ref 176), some (.ref 192), some (.ref 202), some (.ref 203), some (.int (nI i)), none, none, none] [] h u := by
  obtain ⟨x9, e9, r9⟩ : ∃ x9 : Int, (((iI (xs (i + 1)).toInt).toUInt32 % 65536).toInt32 = iI x9) ∧ (-2147483648 ≤ x9 ∧ x9 ≤ 2147483647) := ⟨_, (iI_self _).symm, i_rg _⟩
  obtain ⟨K9, R9, TA, TB, k100, hA, hB, hfin, hst⟩ := op_append (l := l) (G := G) (a := x9) hR hP r9
  refine g_aload_n dL_law_2555 rfl ?_
  refine g_scr (k := 1) dL_law_2556 dL_law_2557 dL_law_2559 dL_law_2560 dL_law_2561 rfl rfl rfl (by omega) hL ?_
  refine g_i2c (v := iI x9) dL_law_2562 e9 ?_
  refine g_aload_n dL_law_2563 rfl ?_
  refine g_callSX (rest := []) lL_285 kL_append hA dL_law_2564 (List.cons_ne_nil _ _) rfl (ro_law (by decide) (by decide) (by decide) (by omega)) rfl (Nat.le_of_ble_eq_true rfl) (fun v h1 hq => ?_) (fun _ _ z => z.elim)
  obtain ⟨rfl, hout, hTA, hfr⟩ := hq
  dsimp only [Option.toList, List.cons_append, List.nil_append]
  refine s_iw dL_law_2567 rfl rfl rfl ?_
  dsimp only [List.set]
  refine g_aload_n dL_law_2569 rfl ?_
  refine g_scr (k := 1) dL_law_2570 dL_law_2571 dL_law_2573 dL_law_2574 dL_law_2575 rfl rfl rfl (by omega) hL ?_
  refine g_i2c (v := iI x9) dL_law_2576 e9 ?_
  refine g_callV (rest := []) lL_288 kX6_append (hB h1 hfr) dL_law_2577 rfl rfl rfl rfl (ro_law (by decide) (by decide) (by decide) (by omega)) rfl (Nat.le_of_ble_eq_true rfl) (fun v h2 hq => ?_) (fun _ _ z => z.elim)
  obtain ⟨⟨x, rfl, hx⟩, h0, hTB, hfr2⟩ := hq
  dsimp only [Option.toList, List.cons_append, List.nil_append]
  exact lw_tail dL_law_2580 dL_law_2582 dL_law_2583 dL_law_2586 dL_law_2588 dL_law_2593 dL_law_2595 dL_law_2598 dL_law_2599 dL_law_2600 dL_law_2601 dL_law_2603 dL_law_2604 dL_law_2605 dL_law_2610 (by decide) k100 (by omega) h0 hx (fun k0 => (hfr2 202 (Or.inr (by decide)) 0).trans (hout k0)) (K _ _ (by omega) (hfin _ (hst _ _ hTA (fun c hc j => hfr2 c (Or.inl hc) j)) hTB))
set_option maxRecDepth 100000 in
theorem cs_read {l : Launch} {G : ux_G} {hh : List (Nat × Nat × Nat × Nat)} {b Ln : Nat} {xs : Nat → Int32} {P : Nat} {h : ux_H} {i u : Nat} (hR : RLw P h) (hP : P + 13000 ≤ 10000000) (hi : i + 6 ≤ Ln) (hL : Ln ≤ 3072) (hu : u ≤ 90000) (K : ∀ h9 u9, u9 ≤ u + 5 → RLw (P + 13000) h9 → ux_W l G (iW hh) room_1 (lZ G b Ln xs) 2870 [some (.ref (1000 + b)), some (.ref 176), some (.ref 192), some (.ref 202), some (.ref 203), some (.int (nI i)), none, none, none] [] h9 u9) : ux_W l G (iW hh) room_1 (lZ G b Ln xs) 2613 [some (.ref (1000 + b)), some (.ref 176), some (.ref 192), some (.ref 202), some (.ref 203), some (.int (nI i)), none, none, none] [] h u := by
  obtain ⟨K9, R9, TA, TB, k100, hA, hB, hfin, hst⟩ := op_read (l := l) (G := G)  hR hP 
  refine g_aload_n dL_law_2613 rfl ?_
  refine g_aload_n dL_law_2614 rfl ?_
  refine g_callSX (rest := []) lL_289 kL_read hA dL_law_2615 (List.cons_ne_nil _ _) rfl (ro_law (by decide) (by decide) (by decide) (by omega)) rfl (Nat.le_of_ble_eq_true rfl) (fun v h1 hq => ?_) (fun _ _ z => z.elim)
  obtain ⟨rfl, hout, hTA, hfr⟩ := hq
  dsimp only [Option.toList, List.cons_append, List.nil_append]
  refine s_iw dL_law_2618 rfl rfl rfl ?_
  dsimp only [List.set]
  refine g_aload_n dL_law_2620 rfl ?_
  refine g_callV (rest := []) lL_291 kX6_read (hB h1 hfr) dL_law_2621 rfl rfl rfl rfl (ro_law (by decide) (by decide) (by decide) (by omega)) rfl (Nat.le_of_ble_eq_true rfl) (fun v h2 hq => ?_) (fun _ _ z => z.elim)
  obtain ⟨⟨x, rfl, hx⟩, h0, hTB, hfr2⟩ := hq
  dsimp only [Option.toList, List.cons_append, List.nil_append]
  exact lw_tail dL_law_2624 dL_law_2626 dL_law_2627 dL_law_2630 dL_law_2632 dL_law_2637 dL_law_2639 dL_law_2642 dL_law_2643 dL_law_2644 dL_law_2645 dL_law_2647 dL_law_2648 dL_law_2649 dL_law_2654 (by decide) k100 (by omega) h0 hx (fun k0 => (hfr2 202 (Or.inr (by decide)) 0).trans (hout k0)) (K _ _ (by omega) (hfin _ (hst _ _ hTA (fun c hc j => hfr2 c (Or.inl hc) j)) hTB))
set_option maxRecDepth 100000 in
theorem cs_errorPosition {l : Launch} {G : ux_G} {hh : List (Nat × Nat × Nat × Nat)} {b Ln : Nat} {xs : Nat → Int32} {P : Nat} {h : ux_H} {i u : Nat} (hR : RLw P h) (hP : P + 13000 ≤ 10000000) (hi : i + 6 ≤ Ln) (hL : Ln ≤ 3072) (hu : u ≤ 90000) (K : ∀ h9 u9, u9 ≤ u + 5 → RLw (P + 13000) h9 → ux_W l G (iW hh) room_1 (lZ G b Ln xs) 2870 [some (.ref (1000 + b)), some (.ref 176), some (.ref 192), some (.ref 202), some (.ref 203), some (.int (nI i)), none, none, none] [] h9 u9) : ux_W l G (iW hh) room_1 (lZ G b Ln xs) 2657 [some (.ref (1000 + b)), some (.ref 176), some (.ref 192), some (.ref 202), some (.ref 203), some (.int (nI i)), none, none, none] [] h u := by
  obtain ⟨K9, R9, TA, TB, k100, hA, hB, hfin, hst⟩ := op_errorPosition (l := l) (G := G)  hR hP 
  refine g_aload_n dL_law_2657 rfl ?_
  refine g_aload_n dL_law_2658 rfl ?_
  refine g_callSX (rest := []) lL_292 kL_errorPosition hA dL_law_2659 (List.cons_ne_nil _ _) rfl (ro_law (by decide) (by decide) (by decide) (by omega)) rfl (Nat.le_of_ble_eq_true rfl) (fun v h1 hq => ?_) (fun _ _ z => z.elim)
  obtain ⟨rfl, hout, hTA, hfr⟩ := hq
  dsimp only [Option.toList, List.cons_append, List.nil_append]
  refine s_iw dL_law_2662 rfl rfl rfl ?_
  dsimp only [List.set]
  refine g_aload_n dL_law_2664 rfl ?_
  refine g_callV (rest := []) lL_294 kX6_errorPosition (hB h1 hfr) dL_law_2665 rfl rfl rfl rfl (ro_law (by decide) (by decide) (by decide) (by omega)) rfl (Nat.le_of_ble_eq_true rfl) (fun v h2 hq => ?_) (fun _ _ z => z.elim)
  obtain ⟨⟨x, rfl, hx⟩, h0, hTB, hfr2⟩ := hq
  dsimp only [Option.toList, List.cons_append, List.nil_append]
  exact lw_tail dL_law_2668 dL_law_2670 dL_law_2671 dL_law_2674 dL_law_2676 dL_law_2681 dL_law_2683 dL_law_2686 dL_law_2687 dL_law_2688 dL_law_2689 dL_law_2691 dL_law_2692 dL_law_2693 dL_law_2698 (by decide) k100 (by omega) h0 hx (fun k0 => (hfr2 202 (Or.inr (by decide)) 0).trans (hout k0)) (K _ _ (by omega) (hfin _ (hst _ _ hTA (fun c hc j => hfr2 c (Or.inl hc) j)) hTB))
set_option maxRecDepth 100000 in
theorem cs_describe {l : Launch} {G : ux_G} {hh : List (Nat × Nat × Nat × Nat)} {b Ln : Nat} {xs : Nat → Int32} {P : Nat} {h : ux_H} {i u : Nat} (hR : RLw P h) (hP : P + 13000 ≤ 10000000) (hi : i + 6 ≤ Ln) (hL : Ln ≤ 3072) (hu : u ≤ 90000) (K : ∀ h9 u9, u9 ≤ u + 5 → RLw (P + 13000) h9 → ux_W l G (iW hh) room_1 (lZ G b Ln xs) 2870 [some (.ref (1000 + b)), some (.ref 176), some (.ref 192), some (.ref 202), some (.ref 203), some (.int (nI i)), none, none, none] [] h9 u9) : ux_W l G (iW hh) room_1 (lZ G b Ln xs) 2701 [some (.ref (1000 + b)), some (.ref 176), some (.ref 192), some (.ref 202), some (.ref 203), some (.int (nI i)), none, none, none] [] h u := by
  obtain ⟨K9, R9, TA, TB, k100, hA, hB, hfin, hst⟩ := op_describe (l := l) (G := G) (a := (xs (i + 1)).toInt) (b := (xs (i + 2)).toInt) hR hP (i_rg _) (i_rg _)
  refine g_aload_n dL_law_2701 rfl ?_
  refine g_scr (k := 1) dL_law_2702 dL_law_2703 dL_law_2705 dL_law_2706 dL_law_2707 rfl rfl rfl (by omega) hL ?_
  refine g_scr (k := 2) dL_law_2708 dL_law_2709 dL_law_2711 dL_law_2712 dL_law_2713 rfl rfl rfl (by omega) hL ?_
  refine g_aload_n dL_law_2714 rfl ?_
  refine g_callSX (rest := []) lL_295 kL_describe hA dL_law_2715 (List.cons_ne_nil _ _) rfl (ro_law (by decide) (by decide) (by decide) (by omega)) rfl (Nat.le_of_ble_eq_true rfl) (fun v h1 hq => ?_) (fun _ _ z => z.elim)
  obtain ⟨rfl, hout, hTA, hfr⟩ := hq
  dsimp only [Option.toList, List.cons_append, List.nil_append]
  refine s_iw dL_law_2718 rfl rfl rfl ?_
  dsimp only [List.set]
  refine g_aload_n dL_law_2720 rfl ?_
  refine g_scr (k := 1) dL_law_2721 dL_law_2722 dL_law_2724 dL_law_2725 dL_law_2726 rfl rfl rfl (by omega) hL ?_
  refine g_scr (k := 2) dL_law_2727 dL_law_2728 dL_law_2730 dL_law_2731 dL_law_2732 rfl rfl rfl (by omega) hL ?_
  refine g_callV (rest := []) lL_297 kX6_describe (hB h1 hfr) dL_law_2733 rfl rfl rfl rfl (ro_law (by decide) (by decide) (by decide) (by omega)) rfl (Nat.le_of_ble_eq_true rfl) (fun v h2 hq => ?_) (fun _ _ z => z.elim)
  obtain ⟨⟨x, rfl, hx⟩, h0, hTB, hfr2⟩ := hq
  dsimp only [Option.toList, List.cons_append, List.nil_append]
  exact lw_tail dL_law_2736 dL_law_2738 dL_law_2739 dL_law_2742 dL_law_2744 dL_law_2749 dL_law_2751 dL_law_2754 dL_law_2755 dL_law_2756 dL_law_2757 dL_law_2759 dL_law_2760 dL_law_2761 dL_law_2766 (by decide) k100 (by omega) h0 hx (fun k0 => (hfr2 202 (Or.inr (by decide)) 0).trans (hout k0)) (K _ _ (by omega) (hfin _ (hst _ _ hTA (fun c hc j => hfr2 c (Or.inl hc) j)) hTB))
set_option maxRecDepth 100000 in
theorem cs_undo {l : Launch} {G : ux_G} {hh : List (Nat × Nat × Nat × Nat)} {b Ln : Nat} {xs : Nat → Int32} {P : Nat} {h : ux_H} {i u : Nat} (hR : RLw P h) (hP : P + 13000 ≤ 10000000) (hi : i + 6 ≤ Ln) (hL : Ln ≤ 3072) (hu : u ≤ 90000) (K : ∀ h9 u9, u9 ≤ u + 5 → RLw (P + 13000) h9 → ux_W l G (iW hh) room_1 (lZ G b Ln xs) 2870 [some (.ref (1000 + b)), some (.ref 176), some (.ref 192), some (.ref 202), some (.ref 203), some (.int (nI i)), none, none, none] [] h9 u9) : ux_W l G (iW hh) room_1 (lZ G b Ln xs) 2769 [some (.ref (1000 + b)), some (.ref 176), some (.ref 192), some (.ref 202), some (.ref 203), some (.int (nI i)), none, none, none] [] h u := by
  obtain ⟨K9, R9, TA, TB, k100, hA, hB, hfin, hst⟩ := op_undo (l := l) (G := G)  hR hP 
  refine g_aload_n dL_law_2769 rfl ?_
  refine g_aload_n dL_law_2770 rfl ?_
  refine g_callSX (rest := []) lL_298 kL_undo hA dL_law_2771 (List.cons_ne_nil _ _) rfl (ro_law (by decide) (by decide) (by decide) (by omega)) rfl (Nat.le_of_ble_eq_true rfl) (fun v h1 hq => ?_) (fun _ _ z => z.elim)
  obtain ⟨rfl, hout, hTA, hfr⟩ := hq
  dsimp only [Option.toList, List.cons_append, List.nil_append]
  refine s_iw dL_law_2774 rfl rfl rfl ?_
  dsimp only [List.set]
  refine g_aload_n dL_law_2776 rfl ?_
  refine g_callV (rest := []) lL_300 kX6_undo (hB h1 hfr) dL_law_2777 rfl rfl rfl rfl (ro_law (by decide) (by decide) (by decide) (by omega)) rfl (Nat.le_of_ble_eq_true rfl) (fun v h2 hq => ?_) (fun _ _ z => z.elim)
  obtain ⟨⟨x, rfl, hx⟩, h0, hTB, hfr2⟩ := hq
  dsimp only [Option.toList, List.cons_append, List.nil_append]
  exact lw_tail dL_law_2780 dL_law_2782 dL_law_2783 dL_law_2786 dL_law_2788 dL_law_2793 dL_law_2795 dL_law_2798 dL_law_2799 dL_law_2800 dL_law_2801 dL_law_2803 dL_law_2804 dL_law_2805 dL_law_2810 (by decide) k100 (by omega) h0 hx (fun k0 => (hfr2 202 (Or.inr (by decide)) 0).trans (hout k0)) (K _ _ (by omega) (hfin _ (hst _ _ hTA (fun c hc j => hfr2 c (Or.inl hc) j)) hTB))
set_option maxRecDepth 100000 in
theorem cs_restore {l : Launch} {G : ux_G} {hh : List (Nat × Nat × Nat × Nat)} {b Ln : Nat} {xs : Nat → Int32} {P : Nat} {h : ux_H} {i u : Nat} (hR : RLw P h) (hP : P + 13000 ≤ 10000000) (hi : i + 6 ≤ Ln) (hL : Ln ≤ 3072) (hu : u ≤ 90000) (K : ∀ h9 u9, u9 ≤ u + 5 → RLw (P + 13000) h9 → ux_W l G (iW hh) room_1 (lZ G b Ln xs) 2870 [some (.ref (1000 + b)), some (.ref 176), some (.ref 192), some (.ref 202), some (.ref 203), some (.int (nI i)), none, none, none] [] h9 u9) : ux_W l G (iW hh) room_1 (lZ G b Ln xs) 2826 [some (.ref (1000 + b)), some (.ref 176), some (.ref 192), some (.ref 202), some (.ref 203), some (.int (nI i)), none, none, none] [] h u := by
  obtain ⟨K9, R9, TA, TB, k100, hA, hB, hfin, hst⟩ := op_restore (l := l) (G := G)  hR hP 
  refine g_aload_n dL_law_2826 rfl ?_
  refine g_aload_n dL_law_2827 rfl ?_
  refine g_callSX (rest := []) lL_305 kL_restore hA dL_law_2828 (List.cons_ne_nil _ _) rfl (ro_law (by decide) (by decide) (by decide) (by omega)) rfl (Nat.le_of_ble_eq_true rfl) (fun v h1 hq => ?_) (fun _ _ z => z.elim)
  obtain ⟨rfl, hout, hTA, hfr⟩ := hq
  dsimp only [Option.toList, List.cons_append, List.nil_append]
  refine s_iw dL_law_2831 rfl rfl rfl ?_
  dsimp only [List.set]
  refine g_aload_n dL_law_2833 rfl ?_
  refine g_callV (rest := []) lL_307 kX6_restore (hB h1 hfr) dL_law_2834 rfl rfl rfl rfl (ro_law (by decide) (by decide) (by decide) (by omega)) rfl (Nat.le_of_ble_eq_true rfl) (fun v h2 hq => ?_) (fun _ _ z => z.elim)
  obtain ⟨⟨x, rfl, hx⟩, h0, hTB, hfr2⟩ := hq
  dsimp only [Option.toList, List.cons_append, List.nil_append]
  exact lw_tail dL_law_2837 dL_law_2839 dL_law_2840 dL_law_2843 dL_law_2845 dL_law_2850 dL_law_2852 dL_law_2855 dL_law_2856 dL_law_2857 dL_law_2858 dL_law_2860 dL_law_2861 dL_law_2862 dL_law_2867 (by decide) k100 (by omega) h0 hx (fun k0 => (hfr2 202 (Or.inr (by decide)) 0).trans (hout k0)) (K _ _ (by omega) (hfin _ (hst _ _ hTA (fun c hc j => hfr2 c (Or.inl hc) j)) hTB))
