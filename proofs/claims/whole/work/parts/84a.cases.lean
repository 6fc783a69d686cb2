set_option maxHeartbeats 4000000 in
set_option maxRecDepth 100000 in
theorem lc_0 {g : rj_G} {hh : List (Nat × Nat × Nat × Nat)} {b L n u i : Nat} {xs : Nat → Int32} {ω : rj_W} {μ : rj_M} (hω : rj_ok ω) (hL : L ≤ 3072) (hi : i + 6 ≤ L) (hn : n ≤ 600) (hu : u ≤ 500000) (I : zi_I n μ μ) (K : rl_K g hh b L xs n u ω i) : rl_R g hh b L xs u ω μ (ll b ω.2.2 i) 292 [] := by
  have op := fun (c r : rj_M) (h : zi_I n c r) => zo_setDate (c := c) (r := r) (a0 := (xs (i + 1))) (a1 := (xs (i + 2))) (a2 := (xs (i + 3))) h
  obtain ⟨hx, hI1, hI2, ht, ho⟩ := zl_A (n := n) (μ := μ) (Ls := ["java/lang/IllegalArgumentException"]) (F := fun c => fX11_setDate c (xs (i + 1)) (xs (i + 2)) (xs (i + 3))) (M := fun c => mX11_setDate c (xs (i + 1)) (xs (i + 2)) (xs (i + 3))) (R := fun r => mX12_setDate r (xs (i + 1)) (xs (i + 2)) (xs (i + 3))) (B := fun r => fX12_setDate r (xs (i + 1)) (xs (i + 2)) (xs (i + 3))) (cv := fun v => v.toInt64) (mL := (mL_setDate μ (xs (i + 1)) (xs (i + 2)) (xs (i + 3)))) (kk := (fL_setDate μ (xs (i + 1)) (xs (i + 2)) (xs (i + 3)))) (fun c r h => ⟨(op c r h).1, (op c r h).2.1⟩) (by decide) I rfl rfl
  have hq1 := (op μ μ I).2.2.1
  have hq2 := (op μ _ hI1).2.2.2
  refine rj_aload_n 1 dL_law_292 rfl rfl ?_
  refine rl_arg (kk := 1) hL hi (by decide) (by decide) 0 5 rfl rfl dL_law_293 rfl dL_law_294 rfl dL_law_296 rfl dL_law_297 rfl dL_law_298 rfl ?_
  refine rl_arg (kk := 2) hL hi (by decide) (by decide) 0 5 rfl rfl dL_law_299 rfl dL_law_300 rfl dL_law_302 rfl dL_law_303 rfl dL_law_304 rfl ?_
  refine rl_arg (kk := 3) hL hi (by decide) (by decide) 0 5 rfl rfl dL_law_305 rfl dL_law_306 rfl dL_law_308 rfl dL_law_309 rfl dL_law_310 rfl ?_
  refine rj_aload_n 3 dL_law_311 rfl rfl ?_
  refine rl_callW (av := [.ref (ω.2.2 0), .int (xs (i + 1)), .int (xs (i + 2)), .int (xs (i + 3)), .ref (ω.2.2 438)]) (rest := []) (sL_setDate (g := g) (ω := ω) hω μ (xs (i + 1)) (xs (i + 2)) (xs (i + 3)) hq1 hx) lw_k_L_setDate rfl hSL_setDate ⟨Nat.le_of_ble_eq_true rfl, Nat.le_of_ble_eq_true rfl⟩ rfl rfl (Nat.le_of_ble_eq_true rfl) dL_law_312 rfl (by omega) ?_
  refine rj_istore (l' := (6, .int (fL_setDate μ (xs (i + 1)) (xs (i + 2)) (xs (i + 3)))) :: ll b ω.2.2 i) dL_law_315 rfl (rj_bl rfl) rfl ?_
  refine rj_aload_n 3 dL_law_317 rfl rfl ?_
  refine rl_arg (kk := 1) hL hi (by decide) (by decide) 1 6 rfl rfl dL_law_318 rfl dL_law_319 rfl dL_law_321 rfl dL_law_322 rfl dL_law_323 rfl ?_
  refine rl_arg (kk := 2) hL hi (by decide) (by decide) 1 6 rfl rfl dL_law_324 rfl dL_law_325 rfl dL_law_327 rfl dL_law_328 rfl dL_law_329 rfl ?_
  refine rl_arg (kk := 3) hL hi (by decide) (by decide) 1 6 rfl rfl dL_law_330 rfl dL_law_331 rfl dL_law_333 rfl dL_law_334 rfl dL_law_335 rfl ?_
  refine rl_callV (av := [.int (xs (i + 1)), .int (xs (i + 2)), .int (xs (i + 3))]) (rest := []) (sX12_setDate (g := g) (ω := ω) hω (mL_setDate μ (xs (i + 1)) (xs (i + 2)) (xs (i + 3))) (xs (i + 1)) (xs (i + 2)) (xs (i + 3)) hq2) lw_k_X12_setDate (rj_lt hω (k := 395) rfl) (rj_sh hω ly_395) rfl rfl hVX12_setDate ⟨Nat.le_of_ble_eq_true rfl, Nat.le_of_ble_eq_true rfl⟩ rfl rfl (Nat.le_of_ble_eq_true rfl) dL_law_336 rfl (by omega) ?_
  exact rl_tailI hω (by omega) ht (fun h => (ho h).1) dL_law_339 rfl dL_law_341 rfl dL_law_342 rfl dL_law_345 rfl dL_law_347 rfl dL_law_352 rfl dL_law_354 rfl rfl dL_law_357 rfl dL_law_358 rfl dL_law_359 rfl dL_law_360 rfl dL_law_362 rfl dL_law_363 rfl dL_law_364 rfl dL_law_369 rfl (K _ ω _ (by omega) hω (fun _ _ => rfl) hI2)

set_option maxHeartbeats 4000000 in
set_option maxRecDepth 100000 in
theorem lc_1 {g : rj_G} {hh : List (Nat × Nat × Nat × Nat)} {b L n u i : Nat} {xs : Nat → Int32} {ω : rj_W} {μ : rj_M} (hω : rj_ok ω) (hL : L ≤ 3072) (hi : i + 6 ≤ L) (hn : n ≤ 600) (hu : u ≤ 500000) (I : zi_I n μ μ) (K : rl_K g hh b L xs n u ω i) : rl_R g hh b L xs u ω μ (ll b ω.2.2 i) 372 [] := by
  have op := fun (c r : rj_M) (h : zi_I n c r) => zo_setOpen (c := c) (r := r) (a0 := (xs (i + 1))) (a1 := (rl_b (xs (i + 2)))) rl_b01 h
  obtain ⟨hx, hI1, hI2, ht, ho⟩ := zl_A (n := n) (μ := μ) (Ls := ["java/lang/IndexOutOfBoundsException"]) (F := fun c => fX11_setOpen c (xs (i + 1)) (rl_b (xs (i + 2)))) (M := fun c => mX11_setOpen c (xs (i + 1)) (rl_b (xs (i + 2)))) (R := fun r => mX12_setOpen r (xs (i + 1)) (rl_b (xs (i + 2)))) (B := fun r => fX12_setOpen r (xs (i + 1)) (rl_b (xs (i + 2)))) (cv := fun v => if v = 0 then 0 else 1) (mL := (mL_setOpen μ (xs (i + 1)) (rl_b (xs (i + 2))))) (kk := (fL_setOpen μ (xs (i + 1)) (rl_b (xs (i + 2))))) (fun c r h => ⟨(op c r h).1, (op c r h).2.1⟩) (by decide) I rfl rfl
  have hq1 := (op μ μ I).2.2.1
  have hq2 := (op μ _ hI1).2.2.2.1
  refine rj_aload_n 1 dL_law_372 rfl rfl ?_
  refine rl_arg (kk := 1) hL hi (by decide) (by decide) 0 5 rfl rfl dL_law_373 rfl dL_law_374 rfl dL_law_376 rfl dL_law_377 rfl dL_law_378 rfl ?_
  refine rl_arg (kk := 2) hL hi (by decide) (by decide) 0 5 rfl rfl dL_law_379 rfl dL_law_380 rfl dL_law_382 rfl dL_law_383 rfl dL_law_384 rfl ?_
  refine rl_bool dL_law_385 rfl rfl dL_law_388 rfl dL_law_389 rfl dL_law_392 rfl ?_
  refine rj_aload_n 3 dL_law_393 rfl rfl ?_
  refine rl_callW (av := [.ref (ω.2.2 0), .int (xs (i + 1)), .int (rl_b (xs (i + 2))), .ref (ω.2.2 438)]) (rest := []) (sL_setOpen (g := g) (ω := ω) hω μ (xs (i + 1)) (rl_b (xs (i + 2))) hq1 hx) lw_k_L_setOpen rfl hSL_setOpen ⟨Nat.le_of_ble_eq_true rfl, Nat.le_of_ble_eq_true rfl⟩ rfl rfl (Nat.le_of_ble_eq_true rfl) dL_law_394 rfl (by omega) ?_
  refine rj_istore (l' := (6, .int (fL_setOpen μ (xs (i + 1)) (rl_b (xs (i + 2))))) :: ll b ω.2.2 i) dL_law_397 rfl (rj_bl rfl) rfl ?_
  refine rj_aload_n 3 dL_law_399 rfl rfl ?_
  refine rl_arg (kk := 1) hL hi (by decide) (by decide) 1 6 rfl rfl dL_law_400 rfl dL_law_401 rfl dL_law_403 rfl dL_law_404 rfl dL_law_405 rfl ?_
  refine rl_arg (kk := 2) hL hi (by decide) (by decide) 1 6 rfl rfl dL_law_406 rfl dL_law_407 rfl dL_law_409 rfl dL_law_410 rfl dL_law_411 rfl ?_
  refine rl_bool dL_law_412 rfl rfl dL_law_415 rfl dL_law_416 rfl dL_law_419 rfl ?_
  refine rl_callV (av := [.int (xs (i + 1)), .int (rl_b (xs (i + 2)))]) (rest := []) (sX12_setOpen (g := g) (ω := ω) hω (mL_setOpen μ (xs (i + 1)) (rl_b (xs (i + 2)))) (xs (i + 1)) (rl_b (xs (i + 2))) hq2) lw_k_X12_setOpen (rj_lt hω (k := 395) rfl) (rj_sh hω ly_395) rfl rfl hVX12_setOpen ⟨Nat.le_of_ble_eq_true rfl, Nat.le_of_ble_eq_true rfl⟩ rfl rfl (Nat.le_of_ble_eq_true rfl) dL_law_420 rfl (by omega) ?_
  exact rl_tailZ hω (by omega) ht (fun h => (ho h).1) dL_law_423 rfl dL_law_425 rfl dL_law_426 rfl dL_law_429 rfl dL_law_431 rfl dL_law_436 rfl dL_law_438 rfl rfl dL_law_441 rfl dL_law_442 rfl dL_law_443 rfl dL_law_444 rfl dL_law_446 rfl rfl dL_law_449 rfl dL_law_450 rfl dL_law_453 rfl dL_law_454 rfl dL_law_455 rfl dL_law_460 rfl (K _ ω _ (by omega) hω (fun _ _ => rfl) hI2)

set_option maxHeartbeats 4000000 in
set_option maxRecDepth 100000 in
theorem lc_2 {g : rj_G} {hh : List (Nat × Nat × Nat × Nat)} {b L n u i : Nat} {xs : Nat → Int32} {ω : rj_W} {μ : rj_M} (hω : rj_ok ω) (hL : L ≤ 3072) (hi : i + 6 ≤ L) (hn : n ≤ 600) (hu : u ≤ 500000) (I : zi_I n μ μ) (K : rl_K g hh b L xs n u ω i) : rl_R g hh b L xs u ω μ (ll b ω.2.2 i) 463 [] := by
  have op := fun (c r : rj_M) (h : zi_I n c r) => zo_setWay (c := c) (r := r) (a0 := (xs (i + 1))) (a1 := (xs (i + 2))) (a2 := (xs (i + 3))) h
  obtain ⟨hx, hI1, hI2, ht, ho⟩ := zl_A (n := n) (μ := μ) (Ls := ["java/lang/IndexOutOfBoundsException", "java/lang/IllegalArgumentException"]) (F := fun c => fX11_setWay c (xs (i + 1)) (xs (i + 2)) (xs (i + 3))) (M := fun c => mX11_setWay c (xs (i + 1)) (xs (i + 2)) (xs (i + 3))) (R := fun r => mX12_setWay r (xs (i + 1)) (xs (i + 2)) (xs (i + 3))) (B := fun r => fX12_setWay r (xs (i + 1)) (xs (i + 2)) (xs (i + 3))) (cv := fun v => v.toInt64) (mL := (mL_setWay μ (xs (i + 1)) (xs (i + 2)) (xs (i + 3)))) (kk := (fL_setWay μ (xs (i + 1)) (xs (i + 2)) (xs (i + 3)))) (fun c r h => ⟨(op c r h).1, (op c r h).2.1⟩) (by decide) I rfl rfl
  have hq1 := (op μ μ I).2.2.1
  have hq2 := (op μ _ hI1).2.2.2
  refine rj_aload_n 1 dL_law_463 rfl rfl ?_
  refine rl_arg (kk := 1) hL hi (by decide) (by decide) 0 5 rfl rfl dL_law_464 rfl dL_law_465 rfl dL_law_467 rfl dL_law_468 rfl dL_law_469 rfl ?_
  refine rl_arg (kk := 2) hL hi (by decide) (by decide) 0 5 rfl rfl dL_law_470 rfl dL_law_471 rfl dL_law_473 rfl dL_law_474 rfl dL_law_475 rfl ?_
  refine rl_arg (kk := 3) hL hi (by decide) (by decide) 0 5 rfl rfl dL_law_476 rfl dL_law_477 rfl dL_law_479 rfl dL_law_480 rfl dL_law_481 rfl ?_
  refine rj_aload_n 3 dL_law_482 rfl rfl ?_
  refine rl_callW (av := [.ref (ω.2.2 0), .int (xs (i + 1)), .int (xs (i + 2)), .int (xs (i + 3)), .ref (ω.2.2 438)]) (rest := []) (sL_setWay (g := g) (ω := ω) hω μ (xs (i + 1)) (xs (i + 2)) (xs (i + 3)) hq1 hx) lw_k_L_setWay rfl hSL_setWay ⟨Nat.le_of_ble_eq_true rfl, Nat.le_of_ble_eq_true rfl⟩ rfl rfl (Nat.le_of_ble_eq_true rfl) dL_law_483 rfl (by omega) ?_
  refine rj_istore (l' := (6, .int (fL_setWay μ (xs (i + 1)) (xs (i + 2)) (xs (i + 3)))) :: ll b ω.2.2 i) dL_law_486 rfl (rj_bl rfl) rfl ?_
  refine rj_aload_n 3 dL_law_488 rfl rfl ?_
  refine rl_arg (kk := 1) hL hi (by decide) (by decide) 1 6 rfl rfl dL_law_489 rfl dL_law_490 rfl dL_law_492 rfl dL_law_493 rfl dL_law_494 rfl ?_
  refine rl_arg (kk := 2) hL hi (by decide) (by decide) 1 6 rfl rfl dL_law_495 rfl dL_law_496 rfl dL_law_498 rfl dL_law_499 rfl dL_law_500 rfl ?_
  refine rl_arg (kk := 3) hL hi (by decide) (by decide) 1 6 rfl rfl dL_law_501 rfl dL_law_502 rfl dL_law_504 rfl dL_law_505 rfl dL_law_506 rfl ?_
  refine rl_callV (av := [.int (xs (i + 1)), .int (xs (i + 2)), .int (xs (i + 3))]) (rest := []) (sX12_setWay (g := g) (ω := ω) hω (mL_setWay μ (xs (i + 1)) (xs (i + 2)) (xs (i + 3))) (xs (i + 1)) (xs (i + 2)) (xs (i + 3)) hq2) lw_k_X12_setWay (rj_lt hω (k := 395) rfl) (rj_sh hω ly_395) rfl rfl hVX12_setWay ⟨Nat.le_of_ble_eq_true rfl, Nat.le_of_ble_eq_true rfl⟩ rfl rfl (Nat.le_of_ble_eq_true rfl) dL_law_507 rfl (by omega) ?_
  exact rl_tailI hω (by omega) ht (fun h => (ho h).1) dL_law_510 rfl dL_law_512 rfl dL_law_513 rfl dL_law_516 rfl dL_law_518 rfl dL_law_523 rfl dL_law_525 rfl rfl dL_law_528 rfl dL_law_529 rfl dL_law_530 rfl dL_law_531 rfl dL_law_533 rfl dL_law_534 rfl dL_law_535 rfl dL_law_540 rfl (K _ ω _ (by omega) hω (fun _ _ => rfl) hI2)

set_option maxHeartbeats 4000000 in
set_option maxRecDepth 100000 in
theorem lc_3 {g : rj_G} {hh : List (Nat × Nat × Nat × Nat)} {b L n u i : Nat} {xs : Nat → Int32} {ω : rj_W} {μ : rj_M} (hω : rj_ok ω) (hL : L ≤ 3072) (hi : i + 6 ≤ L) (hn : n ≤ 600) (hu : u ≤ 500000) (I : zi_I n μ μ) (K : rl_K g hh b L xs n u ω i) : rl_R g hh b L xs u ω μ (ll b ω.2.2 i) 543 [] := by
  have op := fun (c r : rj_M) (h : zi_I n c r) => zo_act (c := c) (r := r) (a0 := (xs (i + 1))) (a1 := (xs (i + 2))) (a2 := (xs (i + 3))) (a3 := (xs (i + 4))) (a4 := (xs (i + 5))) h
  obtain ⟨hx, hI1, hI2, ht, ho⟩ := zl_A (n := n) (μ := μ) (Ls := ["java/lang/IndexOutOfBoundsException", "java/lang/IllegalArgumentException", "java/lang/IllegalStateException"]) (F := fun c => fX11_act c (xs (i + 1)) (xs (i + 2)) (xs (i + 3)) (xs (i + 4)) (xs (i + 5))) (M := fun c => mX11_act c (xs (i + 1)) (xs (i + 2)) (xs (i + 3)) (xs (i + 4)) (xs (i + 5))) (R := fun r => mX12_act r (xs (i + 1)) (xs (i + 2)) (xs (i + 3)) (xs (i + 4)) (xs (i + 5))) (B := fun r => fX12_act r (xs (i + 1)) (xs (i + 2)) (xs (i + 3)) (xs (i + 4)) (xs (i + 5))) (cv := fun v => v.toInt64) (mL := (mL_act μ (xs (i + 1)) (xs (i + 2)) (xs (i + 3)) (xs (i + 4)) (xs (i + 5)))) (kk := (fL_act μ (xs (i + 1)) (xs (i + 2)) (xs (i + 3)) (xs (i + 4)) (xs (i + 5)))) (fun c r h => ⟨(op c r h).1, (op c r h).2.1⟩) (by decide) I rfl rfl
  have hq1 := (op μ μ I).2.2.1
  have hq2 := (op μ _ hI1).2.2.2
  refine rj_aload_n 1 dL_law_543 rfl rfl ?_
  refine rl_arg (kk := 1) hL hi (by decide) (by decide) 0 5 rfl rfl dL_law_544 rfl dL_law_545 rfl dL_law_547 rfl dL_law_548 rfl dL_law_549 rfl ?_
  refine rl_arg (kk := 2) hL hi (by decide) (by decide) 0 5 rfl rfl dL_law_550 rfl dL_law_551 rfl dL_law_553 rfl dL_law_554 rfl dL_law_555 rfl ?_
  refine rl_arg (kk := 3) hL hi (by decide) (by decide) 0 5 rfl rfl dL_law_556 rfl dL_law_557 rfl dL_law_559 rfl dL_law_560 rfl dL_law_561 rfl ?_
  refine rl_arg (kk := 4) hL hi (by decide) (by decide) 0 5 rfl rfl dL_law_562 rfl dL_law_563 rfl dL_law_565 rfl dL_law_566 rfl dL_law_567 rfl ?_
  refine rl_arg (kk := 5) hL hi (by decide) (by decide) 0 5 rfl rfl dL_law_568 rfl dL_law_569 rfl dL_law_571 rfl dL_law_572 rfl dL_law_573 rfl ?_
  refine rj_aload_n 3 dL_law_574 rfl rfl ?_
  refine rl_callW (av := [.ref (ω.2.2 0), .int (xs (i + 1)), .int (xs (i + 2)), .int (xs (i + 3)), .int (xs (i + 4)), .int (xs (i + 5)), .ref (ω.2.2 438)]) (rest := []) (sL_act (g := g) (ω := ω) hω μ (xs (i + 1)) (xs (i + 2)) (xs (i + 3)) (xs (i + 4)) (xs (i + 5)) hq1 hx) lw_k_L_act rfl hSL_act ⟨Nat.le_of_ble_eq_true rfl, Nat.le_of_ble_eq_true rfl⟩ rfl rfl (Nat.le_of_ble_eq_true rfl) dL_law_575 rfl (by omega) ?_
  refine rj_istore (l' := (6, .int (fL_act μ (xs (i + 1)) (xs (i + 2)) (xs (i + 3)) (xs (i + 4)) (xs (i + 5)))) :: ll b ω.2.2 i) dL_law_578 rfl (rj_bl rfl) rfl ?_
  refine rj_aload_n 3 dL_law_580 rfl rfl ?_
  refine rl_arg (kk := 1) hL hi (by decide) (by decide) 1 6 rfl rfl dL_law_581 rfl dL_law_582 rfl dL_law_584 rfl dL_law_585 rfl dL_law_586 rfl ?_
  refine rl_arg (kk := 2) hL hi (by decide) (by decide) 1 6 rfl rfl dL_law_587 rfl dL_law_588 rfl dL_law_590 rfl dL_law_591 rfl dL_law_592 rfl ?_
  refine rl_arg (kk := 3) hL hi (by decide) (by decide) 1 6 rfl rfl dL_law_593 rfl dL_law_594 rfl dL_law_596 rfl dL_law_597 rfl dL_law_598 rfl ?_
  refine rl_arg (kk := 4) hL hi (by decide) (by decide) 1 6 rfl rfl dL_law_599 rfl dL_law_600 rfl dL_law_602 rfl dL_law_603 rfl dL_law_604 rfl ?_
  refine rl_arg (kk := 5) hL hi (by decide) (by decide) 1 6 rfl rfl dL_law_605 rfl dL_law_606 rfl dL_law_608 rfl dL_law_609 rfl dL_law_610 rfl ?_
  refine rl_callV (av := [.int (xs (i + 1)), .int (xs (i + 2)), .int (xs (i + 3)), .int (xs (i + 4)), .int (xs (i + 5))]) (rest := []) (sX12_act (g := g) (ω := ω) hω (mL_act μ (xs (i + 1)) (xs (i + 2)) (xs (i + 3)) (xs (i + 4)) (xs (i + 5))) (xs (i + 1)) (xs (i + 2)) (xs (i + 3)) (xs (i + 4)) (xs (i + 5)) hq2) lw_k_X12_act (rj_lt hω (k := 395) rfl) (rj_sh hω ly_395) rfl rfl hVX12_act ⟨Nat.le_of_ble_eq_true rfl, Nat.le_of_ble_eq_true rfl⟩ rfl rfl (Nat.le_of_ble_eq_true rfl) dL_law_611 rfl (by omega) ?_
  exact rl_tailI hω (by omega) ht (fun h => (ho h).1) dL_law_614 rfl dL_law_616 rfl dL_law_617 rfl dL_law_620 rfl dL_law_622 rfl dL_law_627 rfl dL_law_629 rfl rfl dL_law_632 rfl dL_law_633 rfl dL_law_634 rfl dL_law_635 rfl dL_law_637 rfl dL_law_638 rfl dL_law_639 rfl dL_law_644 rfl (K _ ω _ (by omega) hω (fun _ _ => rfl) hI2)

set_option maxHeartbeats 4000000 in
set_option maxRecDepth 100000 in
theorem lc_4 {g : rj_G} {hh : List (Nat × Nat × Nat × Nat)} {b L n u i : Nat} {xs : Nat → Int32} {ω : rj_W} {μ : rj_M} (hω : rj_ok ω) (hL : L ≤ 3072) (hi : i + 6 ≤ L) (hn : n ≤ 600) (hu : u ≤ 500000) (I : zi_I n μ μ) (K : rl_K g hh b L xs n u ω i) : rl_R g hh b L xs u ω μ (ll b ω.2.2 i) 647 [] := by
  have op := fun (c r : rj_M) (h : zi_I n c r) => zo_drop (c := c) (r := r) (a0 := (xs (i + 1))) h
  obtain ⟨hx, hI1, hI2, ht, ho⟩ := zl_A (n := n) (μ := μ) (Ls := ["java/lang/IndexOutOfBoundsException"]) (F := fun c => fX11_drop c (xs (i + 1))) (M := fun c => mX11_drop c (xs (i + 1))) (R := fun r => mX12_drop r (xs (i + 1))) (B := fun r => fX12_drop r (xs (i + 1))) (cv := fun v => v.toInt64) (mL := (mL_drop μ (xs (i + 1)))) (kk := (fL_drop μ (xs (i + 1)))) (fun c r h => ⟨(op c r h).1, (op c r h).2.1⟩) (by decide) I rfl rfl
  have hq1 := (op μ μ I).2.2.1
  have hq2 := (op μ _ hI1).2.2.2
  refine rj_aload_n 1 dL_law_647 rfl rfl ?_
  refine rl_arg (kk := 1) hL hi (by decide) (by decide) 0 5 rfl rfl dL_law_648 rfl dL_law_649 rfl dL_law_651 rfl dL_law_652 rfl dL_law_653 rfl ?_
  refine rj_aload_n 3 dL_law_654 rfl rfl ?_
  refine rl_callW (av := [.ref (ω.2.2 0), .int (xs (i + 1)), .ref (ω.2.2 438)]) (rest := []) (sL_drop (g := g) (ω := ω) hω μ (xs (i + 1)) hq1 hx) lw_k_L_drop rfl hSL_drop ⟨Nat.le_of_ble_eq_true rfl, Nat.le_of_ble_eq_true rfl⟩ rfl rfl (Nat.le_of_ble_eq_true rfl) dL_law_655 rfl (by omega) ?_
  refine rj_istore (l' := (6, .int (fL_drop μ (xs (i + 1)))) :: ll b ω.2.2 i) dL_law_658 rfl (rj_bl rfl) rfl ?_
  refine rj_aload_n 3 dL_law_660 rfl rfl ?_
  refine rl_arg (kk := 1) hL hi (by decide) (by decide) 1 6 rfl rfl dL_law_661 rfl dL_law_662 rfl dL_law_664 rfl dL_law_665 rfl dL_law_666 rfl ?_
  refine rl_callV (av := [.int (xs (i + 1))]) (rest := []) (sX12_drop (g := g) (ω := ω) hω (mL_drop μ (xs (i + 1))) (xs (i + 1)) hq2) lw_k_X12_drop (rj_lt hω (k := 395) rfl) (rj_sh hω ly_395) rfl rfl hVX12_drop ⟨Nat.le_of_ble_eq_true rfl, Nat.le_of_ble_eq_true rfl⟩ rfl rfl (Nat.le_of_ble_eq_true rfl) dL_law_667 rfl (by omega) ?_
  exact rl_tailI hω (by omega) ht (fun h => (ho h).1) dL_law_670 rfl dL_law_672 rfl dL_law_673 rfl dL_law_676 rfl dL_law_678 rfl dL_law_683 rfl dL_law_685 rfl rfl dL_law_688 rfl dL_law_689 rfl dL_law_690 rfl dL_law_691 rfl dL_law_693 rfl dL_law_694 rfl dL_law_695 rfl dL_law_700 rfl (K _ ω _ (by omega) hω (fun _ _ => rfl) hI2)

set_option maxHeartbeats 4000000 in
set_option maxRecDepth 100000 in
theorem lc_5 {g : rj_G} {hh : List (Nat × Nat × Nat × Nat)} {b L n u i : Nat} {xs : Nat → Int32} {ω : rj_W} {μ : rj_M} (hω : rj_ok ω) (hL : L ≤ 3072) (hi : i + 6 ≤ L) (hn : n ≤ 600) (hu : u ≤ 500000) (I : zi_I n μ μ) (K : rl_K g hh b L xs n u ω i) : rl_R g hh b L xs u ω μ (ll b ω.2.2 i) 703 [] := by
  have op := fun (c r : rj_M) (h : zi_I n c r) => zo_wish (c := c) (r := r) (a0 := (xs (i + 1))) (a1 := (xs (i + 2))) (a2 := (xs (i + 3))) h
  obtain ⟨hx, hI1, hI2, ht, ho⟩ := zl_A (n := n) (μ := μ) (Ls := ["java/lang/IndexOutOfBoundsException", "java/lang/IllegalArgumentException"]) (F := fun c => fX11_wish c (xs (i + 1)) (xs (i + 2)) (xs (i + 3))) (M := fun c => mX11_wish c (xs (i + 1)) (xs (i + 2)) (xs (i + 3))) (R := fun r => mX12_wish r (xs (i + 1)) (xs (i + 2)) (xs (i + 3))) (B := fun r => fX12_wish r (xs (i + 1)) (xs (i + 2)) (xs (i + 3))) (cv := fun v => v.toInt64) (mL := (mL_wish μ (xs (i + 1)) (xs (i + 2)) (xs (i + 3)))) (kk := (fL_wish μ (xs (i + 1)) (xs (i + 2)) (xs (i + 3)))) (fun c r h => ⟨(op c r h).1, (op c r h).2.1⟩) (by decide) I rfl rfl
  have hq1 := (op μ μ I).2.2.1
  have hq2 := (op μ _ hI1).2.2.2
  refine rj_aload_n 1 dL_law_703 rfl rfl ?_
  refine rl_arg (kk := 1) hL hi (by decide) (by decide) 0 5 rfl rfl dL_law_704 rfl dL_law_705 rfl dL_law_707 rfl dL_law_708 rfl dL_law_709 rfl ?_
  refine rl_arg (kk := 2) hL hi (by decide) (by decide) 0 5 rfl rfl dL_law_710 rfl dL_law_711 rfl dL_law_713 rfl dL_law_714 rfl dL_law_715 rfl ?_
  refine rl_arg (kk := 3) hL hi (by decide) (by decide) 0 5 rfl rfl dL_law_716 rfl dL_law_717 rfl dL_law_719 rfl dL_law_720 rfl dL_law_721 rfl ?_
  refine rj_aload_n 3 dL_law_722 rfl rfl ?_
  refine rl_callW (av := [.ref (ω.2.2 0), .int (xs (i + 1)), .int (xs (i + 2)), .int (xs (i + 3)), .ref (ω.2.2 438)]) (rest := []) (sL_wish (g := g) (ω := ω) hω μ (xs (i + 1)) (xs (i + 2)) (xs (i + 3)) hq1 hx) lw_k_L_wish rfl hSL_wish ⟨Nat.le_of_ble_eq_true rfl, Nat.le_of_ble_eq_true rfl⟩ rfl rfl (Nat.le_of_ble_eq_true rfl) dL_law_723 rfl (by omega) ?_
  refine rj_istore (l' := (6, .int (fL_wish μ (xs (i + 1)) (xs (i + 2)) (xs (i + 3)))) :: ll b ω.2.2 i) dL_law_726 rfl (rj_bl rfl) rfl ?_
  refine rj_aload_n 3 dL_law_728 rfl rfl ?_
  refine rl_arg (kk := 1) hL hi (by decide) (by decide) 1 6 rfl rfl dL_law_729 rfl dL_law_730 rfl dL_law_732 rfl dL_law_733 rfl dL_law_734 rfl ?_
  refine rl_arg (kk := 2) hL hi (by decide) (by decide) 1 6 rfl rfl dL_law_735 rfl dL_law_736 rfl dL_law_738 rfl dL_law_739 rfl dL_law_740 rfl ?_
  refine rl_arg (kk := 3) hL hi (by decide) (by decide) 1 6 rfl rfl dL_law_741 rfl dL_law_742 rfl dL_law_744 rfl dL_law_745 rfl dL_law_746 rfl ?_
  refine rl_callV (av := [.int (xs (i + 1)), .int (xs (i + 2)), .int (xs (i + 3))]) (rest := []) (sX12_wish (g := g) (ω := ω) hω (mL_wish μ (xs (i + 1)) (xs (i + 2)) (xs (i + 3))) (xs (i + 1)) (xs (i + 2)) (xs (i + 3)) hq2) lw_k_X12_wish (rj_lt hω (k := 395) rfl) (rj_sh hω ly_395) rfl rfl hVX12_wish ⟨Nat.le_of_ble_eq_true rfl, Nat.le_of_ble_eq_true rfl⟩ rfl rfl (Nat.le_of_ble_eq_true rfl) dL_law_747 rfl (by omega) ?_
  exact rl_tailI hω (by omega) ht (fun h => (ho h).1) dL_law_750 rfl dL_law_752 rfl dL_law_753 rfl dL_law_756 rfl dL_law_758 rfl dL_law_763 rfl dL_law_765 rfl rfl dL_law_768 rfl dL_law_769 rfl dL_law_770 rfl dL_law_771 rfl dL_law_773 rfl dL_law_774 rfl dL_law_775 rfl dL_law_780 rfl (K _ ω _ (by omega) hω (fun _ _ => rfl) hI2)

set_option maxHeartbeats 4000000 in
set_option maxRecDepth 100000 in
theorem lc_6 {g : rj_G} {hh : List (Nat × Nat × Nat × Nat)} {b L n u i : Nat} {xs : Nat → Int32} {ω : rj_W} {μ : rj_M} (hω : rj_ok ω) (hL : L ≤ 3072) (hi : i + 6 ≤ L) (hn : n ≤ 600) (hu : u ≤ 500000) (I : zi_I n μ μ) (K : rl_K g hh b L xs n u ω i) : rl_R g hh b L xs u ω μ (ll b ω.2.2 i) 783 [] := by
  have op := fun (c r : rj_M) (h : zi_I n c r) => zo_setGate (c := c) (r := r) (a0 := (xs (i + 1))) (a1 := (xs (i + 2))) h
  obtain ⟨hx, hI1, hI2, ht, ho⟩ := zl_A (n := n) (μ := μ) (Ls := ["java/lang/IndexOutOfBoundsException", "java/lang/IllegalArgumentException"]) (F := fun c => fX11_setGate c (xs (i + 1)) (xs (i + 2))) (M := fun c => mX11_setGate c (xs (i + 1)) (xs (i + 2))) (R := fun r => mX12_setGate r (xs (i + 1)) (xs (i + 2))) (B := fun r => fX12_setGate r (xs (i + 1)) (xs (i + 2))) (cv := fun v => v.toInt64) (mL := (mL_setGate μ (xs (i + 1)) (xs (i + 2)))) (kk := (fL_setGate μ (xs (i + 1)) (xs (i + 2)))) (fun c r h => ⟨(op c r h).1, (op c r h).2.1⟩) (by decide) I rfl rfl
  have hq1 := (op μ μ I).2.2.1
  have hq2 := (op μ _ hI1).2.2.2
  refine rj_aload_n 1 dL_law_783 rfl rfl ?_
  refine rl_arg (kk := 1) hL hi (by decide) (by decide) 0 5 rfl rfl dL_law_784 rfl dL_law_785 rfl dL_law_787 rfl dL_law_788 rfl dL_law_789 rfl ?_
  refine rl_arg (kk := 2) hL hi (by decide) (by decide) 0 5 rfl rfl dL_law_790 rfl dL_law_791 rfl dL_law_793 rfl dL_law_794 rfl dL_law_795 rfl ?_
  refine rj_aload_n 3 dL_law_796 rfl rfl ?_
  refine rl_callW (av := [.ref (ω.2.2 0), .int (xs (i + 1)), .int (xs (i + 2)), .ref (ω.2.2 438)]) (rest := []) (sL_setGate (g := g) (ω := ω) hω μ (xs (i + 1)) (xs (i + 2)) hq1 hx) lw_k_L_setGate rfl hSL_setGate ⟨Nat.le_of_ble_eq_true rfl, Nat.le_of_ble_eq_true rfl⟩ rfl rfl (Nat.le_of_ble_eq_true rfl) dL_law_797 rfl (by omega) ?_
  refine rj_istore (l' := (6, .int (fL_setGate μ (xs (i + 1)) (xs (i + 2)))) :: ll b ω.2.2 i) dL_law_800 rfl (rj_bl rfl) rfl ?_
  refine rj_aload_n 3 dL_law_802 rfl rfl ?_
  refine rl_arg (kk := 1) hL hi (by decide) (by decide) 1 6 rfl rfl dL_law_803 rfl dL_law_804 rfl dL_law_806 rfl dL_law_807 rfl dL_law_808 rfl ?_
  refine rl_arg (kk := 2) hL hi (by decide) (by decide) 1 6 rfl rfl dL_law_809 rfl dL_law_810 rfl dL_law_812 rfl dL_law_813 rfl dL_law_814 rfl ?_
  refine rl_callV (av := [.int (xs (i + 1)), .int (xs (i + 2))]) (rest := []) (sX12_setGate (g := g) (ω := ω) hω (mL_setGate μ (xs (i + 1)) (xs (i + 2))) (xs (i + 1)) (xs (i + 2)) hq2) lw_k_X12_setGate (rj_lt hω (k := 395) rfl) (rj_sh hω ly_395) rfl rfl hVX12_setGate ⟨Nat.le_of_ble_eq_true rfl, Nat.le_of_ble_eq_true rfl⟩ rfl rfl (Nat.le_of_ble_eq_true rfl) dL_law_815 rfl (by omega) ?_
  exact rl_tailI hω (by omega) ht (fun h => (ho h).1) dL_law_818 rfl dL_law_820 rfl dL_law_821 rfl dL_law_824 rfl dL_law_826 rfl dL_law_831 rfl dL_law_833 rfl rfl dL_law_836 rfl dL_law_837 rfl dL_law_838 rfl dL_law_839 rfl dL_law_841 rfl dL_law_842 rfl dL_law_843 rfl dL_law_848 rfl (K _ ω _ (by omega) hω (fun _ _ => rfl) hI2)

set_option maxHeartbeats 4000000 in
set_option maxRecDepth 100000 in
theorem lc_7 {g : rj_G} {hh : List (Nat × Nat × Nat × Nat)} {b L n u i : Nat} {xs : Nat → Int32} {ω : rj_W} {μ : rj_M} (hω : rj_ok ω) (hL : L ≤ 3072) (hi : i + 6 ≤ L) (hn : n ≤ 600) (hu : u ≤ 500000) (I : zi_I n μ μ) (K : rl_K g hh b L xs n u ω i) : rl_R g hh b L xs u ω μ (ll b ω.2.2 i) 851 [] := by
  have op := fun (c r : rj_M) (h : zi_I n c r) => zo_setReach (c := c) (r := r) (a0 := (xs (i + 1))) (a1 := (xs (i + 2))) (a2 := (xs (i + 3))) h
  obtain ⟨hx, hI1, hI2, ht, ho⟩ := zl_A (n := n) (μ := μ) (Ls := ["java/lang/IndexOutOfBoundsException", "java/lang/IllegalArgumentException"]) (F := fun c => fX11_setReach c (xs (i + 1)) (xs (i + 2)) (xs (i + 3))) (M := fun c => mX11_setReach c (xs (i + 1)) (xs (i + 2)) (xs (i + 3))) (R := fun r => mX12_setReach r (xs (i + 1)) (xs (i + 2)) (xs (i + 3))) (B := fun r => fX12_setReach r (xs (i + 1)) (xs (i + 2)) (xs (i + 3))) (cv := fun v => v.toInt64) (mL := (mL_setReach μ (xs (i + 1)) (xs (i + 2)) (xs (i + 3)))) (kk := (fL_setReach μ (xs (i + 1)) (xs (i + 2)) (xs (i + 3)))) (fun c r h => ⟨(op c r h).1, (op c r h).2.1⟩) (by decide) I rfl rfl
  have hq1 := (op μ μ I).2.2.1
  have hq2 := (op μ _ hI1).2.2.2
  refine rj_aload_n 1 dL_law_851 rfl rfl ?_
  refine rl_arg (kk := 1) hL hi (by decide) (by decide) 0 5 rfl rfl dL_law_852 rfl dL_law_853 rfl dL_law_855 rfl dL_law_856 rfl dL_law_857 rfl ?_
  refine rl_arg (kk := 2) hL hi (by decide) (by decide) 0 5 rfl rfl dL_law_858 rfl dL_law_859 rfl dL_law_861 rfl dL_law_862 rfl dL_law_863 rfl ?_
  refine rl_arg (kk := 3) hL hi (by decide) (by decide) 0 5 rfl rfl dL_law_864 rfl dL_law_865 rfl dL_law_867 rfl dL_law_868 rfl dL_law_869 rfl ?_
  refine rj_aload_n 3 dL_law_870 rfl rfl ?_
  refine rl_callW (av := [.ref (ω.2.2 0), .int (xs (i + 1)), .int (xs (i + 2)), .int (xs (i + 3)), .ref (ω.2.2 438)]) (rest := []) (sL_setReach (g := g) (ω := ω) hω μ (xs (i + 1)) (xs (i + 2)) (xs (i + 3)) hq1 hx) lw_k_L_setReach rfl hSL_setReach ⟨Nat.le_of_ble_eq_true rfl, Nat.le_of_ble_eq_true rfl⟩ rfl rfl (Nat.le_of_ble_eq_true rfl) dL_law_871 rfl (by omega) ?_
  refine rj_istore (l' := (6, .int (fL_setReach μ (xs (i + 1)) (xs (i + 2)) (xs (i + 3)))) :: ll b ω.2.2 i) dL_law_874 rfl (rj_bl rfl) rfl ?_
  refine rj_aload_n 3 dL_law_876 rfl rfl ?_
  refine rl_arg (kk := 1) hL hi (by decide) (by decide) 1 6 rfl rfl dL_law_877 rfl dL_law_878 rfl dL_law_880 rfl dL_law_881 rfl dL_law_882 rfl ?_
  refine rl_arg (kk := 2) hL hi (by decide) (by decide) 1 6 rfl rfl dL_law_883 rfl dL_law_884 rfl dL_law_886 rfl dL_law_887 rfl dL_law_888 rfl ?_
  refine rl_arg (kk := 3) hL hi (by decide) (by decide) 1 6 rfl rfl dL_law_889 rfl dL_law_890 rfl dL_law_892 rfl dL_law_893 rfl dL_law_894 rfl ?_
  refine rl_callV (av := [.int (xs (i + 1)), .int (xs (i + 2)), .int (xs (i + 3))]) (rest := []) (sX12_setReach (g := g) (ω := ω) hω (mL_setReach μ (xs (i + 1)) (xs (i + 2)) (xs (i + 3))) (xs (i + 1)) (xs (i + 2)) (xs (i + 3)) hq2) lw_k_X12_setReach (rj_lt hω (k := 395) rfl) (rj_sh hω ly_395) rfl rfl hVX12_setReach ⟨Nat.le_of_ble_eq_true rfl, Nat.le_of_ble_eq_true rfl⟩ rfl rfl (Nat.le_of_ble_eq_true rfl) dL_law_895 rfl (by omega) ?_
  exact rl_tailI hω (by omega) ht (fun h => (ho h).1) dL_law_898 rfl dL_law_900 rfl dL_law_901 rfl dL_law_904 rfl dL_law_906 rfl dL_law_911 rfl dL_law_913 rfl rfl dL_law_916 rfl dL_law_917 rfl dL_law_918 rfl dL_law_919 rfl dL_law_921 rfl dL_law_922 rfl dL_law_923 rfl dL_law_928 rfl (K _ ω _ (by omega) hω (fun _ _ => rfl) hI2)
