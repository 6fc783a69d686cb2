set_option maxHeartbeats 4000000 in
set_option maxRecDepth 100000 in
theorem lc_32 {g : rj_G} {hh : List (Nat × Nat × Nat × Nat)} {b L n u i : Nat} {xs : Nat → Int32} {ω : rj_W} {μ : rj_M} (hω : rj_ok ω) (hL : L ≤ 3072) (hi : i + 6 ≤ L) (hn : n ≤ 600) (hu : u ≤ 500000) (I : zi_I n μ μ) (K : rl_K g hh b L xs n u ω i) : rl_R g hh b L xs u ω μ (ll b ω.2.2 i) 2424 [] := by
  have op := fun (c r : rj_M) (h : zi_I n c r) => zu_clashes (c := c) (r := r) h
  obtain ⟨hI1, hI2, he⟩ := zl_B (n := n) (μ := μ) (M := fun c => c) (R := fun r => mX12_clashes r) (Fv := fun c => fX11_clashes c ) (Bv := fun r => fX12_clashes r) (fun c r h => ⟨(op c r h).1, (op c r h).2.2⟩) I
  refine rj_aload_n 1 dL_law_2424 rfl rfl ?_
  refine rl_callV (av := []) (rest := []) (sX11_clashes (g := g) (ω := ω) hω μ ) lw_k_X11_clashes (rj_lt hω (k := 0) rfl) (rj_sh hω ly_0) rfl rfl hVX11_clashes ⟨Nat.le_of_ble_eq_true rfl, Nat.le_of_ble_eq_true rfl⟩ rfl rfl (Nat.le_of_ble_eq_true rfl) dL_law_2425 rfl (by omega) ?_
  refine rj_aload_n 2 dL_law_2428 rfl rfl ?_
  refine rl_callV (av := []) (rest := [.int (fX11_clashes μ)]) (sX12_clashes (g := g) (ω := ω) hω μ ) lw_k_X12_clashes (rj_lt hω (k := 395) rfl) (rj_sh hω ly_395) rfl rfl hVX12_clashes ⟨Nat.le_of_ble_eq_true rfl, Nat.le_of_ble_eq_true rfl⟩ rfl rfl (Nat.le_of_ble_eq_true rfl) dL_law_2429 rfl (by omega) ?_
  exact rj_icmp_eq dL_law_2432 rfl rfl (fun _ => (K _ ω _ (by omega) hω (fun _ _ => rfl) hI2)) (fun h => absurd he h)

set_option maxHeartbeats 4000000 in
set_option maxRecDepth 100000 in
theorem lc_33 {g : rj_G} {hh : List (Nat × Nat × Nat × Nat)} {b L n u i : Nat} {xs : Nat → Int32} {ω : rj_W} {μ : rj_M} (hω : rj_ok ω) (hL : L ≤ 3072) (hi : i + 6 ≤ L) (hn : n ≤ 600) (hu : u ≤ 500000) (I : zi_I n μ μ) (K : rl_K g hh b L xs n u ω i) : rl_R g hh b L xs u ω μ (ll b ω.2.2 i) 2437 [] := by
  have op := fun (c r : rj_M) (h : zi_I n c r) => zu_pleased (c := c) (r := r) (a0 := (rl_b (xs (i + 1)))) h
  obtain ⟨hI1, hI2, he⟩ := zl_B (n := n) (μ := μ) (M := fun c => mX11_pleased c (rl_b (xs (i + 1)))) (R := fun r => mX12_pleased r (rl_b (xs (i + 1)))) (Fv := fun c => fX11_pleased c (rl_b (xs (i + 1)))) (Bv := fun r => fX12_pleased r (rl_b (xs (i + 1)))) (fun c r h => ⟨(op c r h).1, (op c r h).2.2.1⟩) I
  have hq1 := (op μ μ I).2.2.2.1
  have hq2 := (op μ _ hI1).2.2.2.2
  refine rj_aload_n 1 dL_law_2437 rfl rfl ?_
  refine rl_arg (kk := 1) hL hi (by decide) (by decide) 0 5 rfl rfl dL_law_2438 rfl dL_law_2439 rfl dL_law_2441 rfl dL_law_2442 rfl dL_law_2443 rfl ?_
  refine rl_bool dL_law_2444 rfl rfl dL_law_2447 rfl dL_law_2448 rfl dL_law_2451 rfl ?_
  refine rl_callV (av := [.int (rl_b (xs (i + 1)))]) (rest := []) (sX11_pleased (g := g) (ω := ω) hω μ (rl_b (xs (i + 1))) hq1) lw_k_X11_pleased (rj_lt hω (k := 0) rfl) (rj_sh hω ly_0) rfl rfl hVX11_pleased ⟨Nat.le_of_ble_eq_true rfl, Nat.le_of_ble_eq_true rfl⟩ rfl rfl (Nat.le_of_ble_eq_true rfl) dL_law_2452 rfl (by omega) ?_
  refine rj_aload_n 2 dL_law_2455 rfl rfl ?_
  refine rl_arg (kk := 1) hL hi (by decide) (by decide) 0 5 rfl rfl dL_law_2456 rfl dL_law_2457 rfl dL_law_2459 rfl dL_law_2460 rfl dL_law_2461 rfl ?_
  refine rl_bool dL_law_2462 rfl rfl dL_law_2465 rfl dL_law_2466 rfl dL_law_2469 rfl ?_
  refine rl_callV (av := [.int (rl_b (xs (i + 1)))]) (rest := [.int (fX11_pleased μ (rl_b (xs (i + 1))))]) (sX12_pleased (g := g) (ω := ω) hω (mX11_pleased μ (rl_b (xs (i + 1)))) (rl_b (xs (i + 1))) hq2) lw_k_X12_pleased (rj_lt hω (k := 395) rfl) (rj_sh hω ly_395) rfl rfl hVX12_pleased ⟨Nat.le_of_ble_eq_true rfl, Nat.le_of_ble_eq_true rfl⟩ rfl rfl (Nat.le_of_ble_eq_true rfl) dL_law_2470 rfl (by omega) ?_
  exact rj_icmp_eq dL_law_2473 rfl rfl (fun _ => (K _ ω _ (by omega) hω (fun _ _ => rfl) hI2)) (fun h => absurd he h)

set_option maxHeartbeats 4000000 in
set_option maxRecDepth 100000 in
theorem lc_34 {g : rj_G} {hh : List (Nat × Nat × Nat × Nat)} {b L n u i : Nat} {xs : Nat → Int32} {ω : rj_W} {μ : rj_M} (hω : rj_ok ω) (hL : L ≤ 3072) (hi : i + 6 ≤ L) (hn : n ≤ 600) (hu : u ≤ 500000) (I : zi_I n μ μ) (K : rl_K g hh b L xs n u ω i) : rl_R g hh b L xs u ω μ (ll b ω.2.2 i) 2478 [] := by
  have op := fun (c r : rj_M) (h : zi_I n c r) => zu_evening (c := c) (r := r) (a0 := (xs (i + 1))) (a1 := (xs (i + 2))) h
  obtain ⟨hx, hI1, hI2, ht, ho⟩ := zl_A (n := n) (μ := μ) (Ls := ["java/lang/IndexOutOfBoundsException"]) (F := fun c => fX11_evening c (xs (i + 1)) (xs (i + 2))) (M := fun c => mX11_evening c (xs (i + 1)) (xs (i + 2))) (R := fun r => mX12_evening r (xs (i + 1)) (xs (i + 2))) (B := fun r => fX12_evening r (xs (i + 1)) (xs (i + 2))) (cv := fun v => v.toInt64) (mL := (mL_evening μ (xs (i + 1)) (xs (i + 2)))) (kk := (fL_evening μ (xs (i + 1)) (xs (i + 2)))) (fun c r h => ⟨(op c r h).1, (op c r h).2.1⟩) (by decide) I rfl rfl
  have hq2 := (op μ _ hI1).2.2
  refine rj_aload_n 1 dL_law_2478 rfl rfl ?_
  refine rl_arg (kk := 1) hL hi (by decide) (by decide) 0 5 rfl rfl dL_law_2479 rfl dL_law_2480 rfl dL_law_2482 rfl dL_law_2483 rfl dL_law_2484 rfl ?_
  refine rl_arg (kk := 2) hL hi (by decide) (by decide) 0 5 rfl rfl dL_law_2485 rfl dL_law_2486 rfl dL_law_2488 rfl dL_law_2489 rfl dL_law_2490 rfl ?_
  refine rj_aload_n 3 dL_law_2491 rfl rfl ?_
  refine rl_callW (av := [.ref (ω.2.2 0), .int (xs (i + 1)), .int (xs (i + 2)), .ref (ω.2.2 438)]) (rest := []) (sL_evening (g := g) (ω := ω) hω μ (xs (i + 1)) (xs (i + 2)) hx) lw_k_L_evening rfl hSL_evening ⟨Nat.le_of_ble_eq_true rfl, Nat.le_of_ble_eq_true rfl⟩ rfl rfl (Nat.le_of_ble_eq_true rfl) dL_law_2492 rfl (by omega) ?_
  refine rj_istore (l' := (6, .int (fL_evening μ (xs (i + 1)) (xs (i + 2)))) :: ll b ω.2.2 i) dL_law_2495 rfl (rj_bl rfl) rfl ?_
  refine rj_aload_n 3 dL_law_2497 rfl rfl ?_
  refine rl_arg (kk := 1) hL hi (by decide) (by decide) 1 6 rfl rfl dL_law_2498 rfl dL_law_2499 rfl dL_law_2501 rfl dL_law_2502 rfl dL_law_2503 rfl ?_
  refine rl_arg (kk := 2) hL hi (by decide) (by decide) 1 6 rfl rfl dL_law_2504 rfl dL_law_2505 rfl dL_law_2507 rfl dL_law_2508 rfl dL_law_2509 rfl ?_
  refine rl_callV (av := [.int (xs (i + 1)), .int (xs (i + 2))]) (rest := []) (sX12_evening (g := g) (ω := ω) hω (mL_evening μ (xs (i + 1)) (xs (i + 2))) (xs (i + 1)) (xs (i + 2)) hq2) lw_k_X12_evening (rj_lt hω (k := 395) rfl) (rj_sh hω ly_395) rfl rfl hVX12_evening ⟨Nat.le_of_ble_eq_true rfl, Nat.le_of_ble_eq_true rfl⟩ rfl rfl (Nat.le_of_ble_eq_true rfl) dL_law_2510 rfl (by omega) ?_
  exact rl_tailI hω (by omega) ht (fun h => (ho h).1) dL_law_2513 rfl dL_law_2515 rfl dL_law_2516 rfl dL_law_2519 rfl dL_law_2521 rfl dL_law_2526 rfl dL_law_2528 rfl rfl dL_law_2531 rfl dL_law_2532 rfl dL_law_2533 rfl dL_law_2534 rfl dL_law_2536 rfl dL_law_2537 rfl dL_law_2538 rfl dL_law_2543 rfl (K _ ω _ (by omega) hω (fun _ _ => rfl) hI2)

set_option maxHeartbeats 4000000 in
set_option maxRecDepth 100000 in
theorem lc_35 {g : rj_G} {hh : List (Nat × Nat × Nat × Nat)} {b L n u i : Nat} {xs : Nat → Int32} {ω : rj_W} {μ : rj_M} (hω : rj_ok ω) (hL : L ≤ 3072) (hi : i + 6 ≤ L) (hn : n ≤ 600) (hu : u ≤ 500000) (I : zi_I n μ μ) (K : rl_K g hh b L xs n u ω i) : rl_R g hh b L xs u ω μ (ll b ω.2.2 i) 2546 [] := by
  have op := fun (c r : rj_M) (h : zi_I n c r) => zu_eveningAct (c := c) (r := r) (a0 := (xs (i + 1))) (a1 := (xs (i + 2))) (a2 := (xs (i + 3))) h
  obtain ⟨hx, hI1, hI2, ht, ho⟩ := zl_A (n := n) (μ := μ) (Ls := ["java/lang/IndexOutOfBoundsException", "java/util/NoSuchElementException"]) (F := fun c => fX11_eveningAct c (xs (i + 1)) (xs (i + 2)) (xs (i + 3))) (M := fun c => mX11_eveningAct c (xs (i + 1)) (xs (i + 2)) (xs (i + 3))) (R := fun r => mX12_eveningAct r (xs (i + 1)) (xs (i + 2)) (xs (i + 3))) (B := fun r => fX12_eveningAct r (xs (i + 1)) (xs (i + 2)) (xs (i + 3))) (cv := fun v => v.toInt64) (mL := (mL_eveningAct μ (xs (i + 1)) (xs (i + 2)) (xs (i + 3)))) (kk := (fL_eveningAct μ (xs (i + 1)) (xs (i + 2)) (xs (i + 3)))) (fun c r h => ⟨(op c r h).1, (op c r h).2.1⟩) (by decide) I rfl rfl
  have hq2 := (op μ _ hI1).2.2
  refine rj_aload_n 1 dL_law_2546 rfl rfl ?_
  refine rl_arg (kk := 1) hL hi (by decide) (by decide) 0 5 rfl rfl dL_law_2547 rfl dL_law_2548 rfl dL_law_2550 rfl dL_law_2551 rfl dL_law_2552 rfl ?_
  refine rl_arg (kk := 2) hL hi (by decide) (by decide) 0 5 rfl rfl dL_law_2553 rfl dL_law_2554 rfl dL_law_2556 rfl dL_law_2557 rfl dL_law_2558 rfl ?_
  refine rl_arg (kk := 3) hL hi (by decide) (by decide) 0 5 rfl rfl dL_law_2559 rfl dL_law_2560 rfl dL_law_2562 rfl dL_law_2563 rfl dL_law_2564 rfl ?_
  refine rj_aload_n 3 dL_law_2565 rfl rfl ?_
  refine rl_callW (av := [.ref (ω.2.2 0), .int (xs (i + 1)), .int (xs (i + 2)), .int (xs (i + 3)), .ref (ω.2.2 438)]) (rest := []) (sL_eveningAct (g := g) (ω := ω) hω μ (xs (i + 1)) (xs (i + 2)) (xs (i + 3)) hx) lw_k_L_eveningAct rfl hSL_eveningAct ⟨Nat.le_of_ble_eq_true rfl, Nat.le_of_ble_eq_true rfl⟩ rfl rfl (Nat.le_of_ble_eq_true rfl) dL_law_2566 rfl (by omega) ?_
  refine rj_istore (l' := (6, .int (fL_eveningAct μ (xs (i + 1)) (xs (i + 2)) (xs (i + 3)))) :: ll b ω.2.2 i) dL_law_2569 rfl (rj_bl rfl) rfl ?_
  refine rj_aload_n 3 dL_law_2571 rfl rfl ?_
  refine rl_arg (kk := 1) hL hi (by decide) (by decide) 1 6 rfl rfl dL_law_2572 rfl dL_law_2573 rfl dL_law_2575 rfl dL_law_2576 rfl dL_law_2577 rfl ?_
  refine rl_arg (kk := 2) hL hi (by decide) (by decide) 1 6 rfl rfl dL_law_2578 rfl dL_law_2579 rfl dL_law_2581 rfl dL_law_2582 rfl dL_law_2583 rfl ?_
  refine rl_arg (kk := 3) hL hi (by decide) (by decide) 1 6 rfl rfl dL_law_2584 rfl dL_law_2585 rfl dL_law_2587 rfl dL_law_2588 rfl dL_law_2589 rfl ?_
  refine rl_callV (av := [.int (xs (i + 1)), .int (xs (i + 2)), .int (xs (i + 3))]) (rest := []) (sX12_eveningAct (g := g) (ω := ω) hω (mL_eveningAct μ (xs (i + 1)) (xs (i + 2)) (xs (i + 3))) (xs (i + 1)) (xs (i + 2)) (xs (i + 3)) hq2) lw_k_X12_eveningAct (rj_lt hω (k := 395) rfl) (rj_sh hω ly_395) rfl rfl hVX12_eveningAct ⟨Nat.le_of_ble_eq_true rfl, Nat.le_of_ble_eq_true rfl⟩ rfl rfl (Nat.le_of_ble_eq_true rfl) dL_law_2590 rfl (by omega) ?_
  exact rl_tailI hω (by omega) ht (fun h => (ho h).1) dL_law_2593 rfl dL_law_2595 rfl dL_law_2596 rfl dL_law_2599 rfl dL_law_2601 rfl dL_law_2606 rfl dL_law_2608 rfl rfl dL_law_2611 rfl dL_law_2612 rfl dL_law_2613 rfl dL_law_2614 rfl dL_law_2616 rfl dL_law_2617 rfl dL_law_2618 rfl dL_law_2623 rfl (K _ ω _ (by omega) hω (fun _ _ => rfl) hI2)

set_option maxHeartbeats 4000000 in
set_option maxRecDepth 100000 in
theorem lc_36 {g : rj_G} {hh : List (Nat × Nat × Nat × Nat)} {b L n u i : Nat} {xs : Nat → Int32} {ω : rj_W} {μ : rj_M} (hω : rj_ok ω) (hL : L ≤ 3072) (hi : i + 6 ≤ L) (hn : n ≤ 600) (hu : u ≤ 500000) (I : zi_I n μ μ) (K : rl_K g hh b L xs n u ω i) : rl_R g hh b L xs u ω μ (ll b ω.2.2 i) 2626 [] := by
  have op := fun (c r : rj_M) (h : zi_I n c r) => zu_price (c := c) (r := r) (a0 := (xs (i + 1))) (a1 := (xs (i + 2))) h
  obtain ⟨hx, hI1, hI2, ht, ho⟩ := zl_A (n := n) (μ := μ) (Ls := ["java/lang/IndexOutOfBoundsException"]) (F := fun c => fX11_price c (xs (i + 1)) (xs (i + 2))) (M := fun c => mX11_price c (xs (i + 1)) (xs (i + 2))) (R := fun r => mX12_price r (xs (i + 1)) (xs (i + 2))) (B := fun r => fX12_price r (xs (i + 1)) (xs (i + 2))) (cv := fun v => v.toInt64) (mL := (mL_price μ (xs (i + 1)) (xs (i + 2)))) (kk := (fL_price μ (xs (i + 1)) (xs (i + 2)))) (fun c r h => ⟨(op c r h).1, (op c r h).2.1⟩) (by decide) I rfl rfl
  have hq2 := (op μ _ hI1).2.2
  refine rj_aload_n 1 dL_law_2626 rfl rfl ?_
  refine rl_arg (kk := 1) hL hi (by decide) (by decide) 0 5 rfl rfl dL_law_2627 rfl dL_law_2628 rfl dL_law_2630 rfl dL_law_2631 rfl dL_law_2632 rfl ?_
  refine rl_arg (kk := 2) hL hi (by decide) (by decide) 0 5 rfl rfl dL_law_2633 rfl dL_law_2634 rfl dL_law_2636 rfl dL_law_2637 rfl dL_law_2638 rfl ?_
  refine rj_aload_n 3 dL_law_2639 rfl rfl ?_
  refine rl_callW (av := [.ref (ω.2.2 0), .int (xs (i + 1)), .int (xs (i + 2)), .ref (ω.2.2 438)]) (rest := []) (sL_price (g := g) (ω := ω) hω μ (xs (i + 1)) (xs (i + 2)) hx) lw_k_L_price rfl hSL_price ⟨Nat.le_of_ble_eq_true rfl, Nat.le_of_ble_eq_true rfl⟩ rfl rfl (Nat.le_of_ble_eq_true rfl) dL_law_2640 rfl (by omega) ?_
  refine rj_istore (l' := (6, .int (fL_price μ (xs (i + 1)) (xs (i + 2)))) :: ll b ω.2.2 i) dL_law_2643 rfl (rj_bl rfl) rfl ?_
  refine rj_aload_n 3 dL_law_2645 rfl rfl ?_
  refine rl_arg (kk := 1) hL hi (by decide) (by decide) 1 6 rfl rfl dL_law_2646 rfl dL_law_2647 rfl dL_law_2649 rfl dL_law_2650 rfl dL_law_2651 rfl ?_
  refine rl_arg (kk := 2) hL hi (by decide) (by decide) 1 6 rfl rfl dL_law_2652 rfl dL_law_2653 rfl dL_law_2655 rfl dL_law_2656 rfl dL_law_2657 rfl ?_
  refine rl_callV (av := [.int (xs (i + 1)), .int (xs (i + 2))]) (rest := []) (sX12_price (g := g) (ω := ω) hω (mL_price μ (xs (i + 1)) (xs (i + 2))) (xs (i + 1)) (xs (i + 2)) hq2) lw_k_X12_price (rj_lt hω (k := 395) rfl) (rj_sh hω ly_395) rfl rfl hVX12_price ⟨Nat.le_of_ble_eq_true rfl, Nat.le_of_ble_eq_true rfl⟩ rfl rfl (Nat.le_of_ble_eq_true rfl) dL_law_2658 rfl (by omega) ?_
  exact rl_tailI hω (by omega) ht (fun h => (ho h).1) dL_law_2661 rfl dL_law_2663 rfl dL_law_2664 rfl dL_law_2667 rfl dL_law_2669 rfl dL_law_2674 rfl dL_law_2676 rfl rfl dL_law_2679 rfl dL_law_2680 rfl dL_law_2681 rfl dL_law_2682 rfl dL_law_2684 rfl dL_law_2685 rfl dL_law_2686 rfl dL_law_2691 rfl (K _ ω _ (by omega) hω (fun _ _ => rfl) hI2)

set_option maxHeartbeats 4000000 in
set_option maxRecDepth 100000 in
theorem lc_37 {g : rj_G} {hh : List (Nat × Nat × Nat × Nat)} {b L n u i : Nat} {xs : Nat → Int32} {ω : rj_W} {μ : rj_M} (hω : rj_ok ω) (hL : L ≤ 3072) (hi : i + 6 ≤ L) (hn : n ≤ 600) (hu : u ≤ 500000) (I : zi_I n μ μ) (K : rl_K g hh b L xs n u ω i) : rl_R g hh b L xs u ω μ (ll b ω.2.2 i) 2694 [] := by
  have op := fun (c r : rj_M) (h : zi_I n c r) => zu_listeners (c := c) (r := r) (a0 := (xs (i + 1))) (a1 := (xs (i + 2))) h
  obtain ⟨hx, hI1, hI2, ht, ho⟩ := zl_A (n := n) (μ := μ) (Ls := ["java/lang/IndexOutOfBoundsException", "java/lang/IllegalArgumentException"]) (F := fun c => fX11_listeners c (xs (i + 1)) (xs (i + 2))) (M := fun c => mX11_listeners c (xs (i + 1)) (xs (i + 2))) (R := fun r => mX12_listeners r (xs (i + 1)) (xs (i + 2))) (B := fun r => fX12_listeners r (xs (i + 1)) (xs (i + 2))) (cv := fun v => v.toInt64) (mL := (mL_listeners μ (xs (i + 1)) (xs (i + 2)))) (kk := (fL_listeners μ (xs (i + 1)) (xs (i + 2)))) (fun c r h => ⟨(op c r h).1, (op c r h).2.1⟩) (by decide) I rfl rfl
  have hq2 := (op μ _ hI1).2.2
  refine rj_aload_n 1 dL_law_2694 rfl rfl ?_
  refine rl_arg (kk := 1) hL hi (by decide) (by decide) 0 5 rfl rfl dL_law_2695 rfl dL_law_2696 rfl dL_law_2698 rfl dL_law_2699 rfl dL_law_2700 rfl ?_
  refine rl_arg (kk := 2) hL hi (by decide) (by decide) 0 5 rfl rfl dL_law_2701 rfl dL_law_2702 rfl dL_law_2704 rfl dL_law_2705 rfl dL_law_2706 rfl ?_
  refine rj_aload_n 3 dL_law_2707 rfl rfl ?_
  refine rl_callW (av := [.ref (ω.2.2 0), .int (xs (i + 1)), .int (xs (i + 2)), .ref (ω.2.2 438)]) (rest := []) (sL_listeners (g := g) (ω := ω) hω μ (xs (i + 1)) (xs (i + 2)) hx) lw_k_L_listeners rfl hSL_listeners ⟨Nat.le_of_ble_eq_true rfl, Nat.le_of_ble_eq_true rfl⟩ rfl rfl (Nat.le_of_ble_eq_true rfl) dL_law_2708 rfl (by omega) ?_
  refine rj_istore (l' := (6, .int (fL_listeners μ (xs (i + 1)) (xs (i + 2)))) :: ll b ω.2.2 i) dL_law_2711 rfl (rj_bl rfl) rfl ?_
  refine rj_aload_n 3 dL_law_2713 rfl rfl ?_
  refine rl_arg (kk := 1) hL hi (by decide) (by decide) 1 6 rfl rfl dL_law_2714 rfl dL_law_2715 rfl dL_law_2717 rfl dL_law_2718 rfl dL_law_2719 rfl ?_
  refine rl_arg (kk := 2) hL hi (by decide) (by decide) 1 6 rfl rfl dL_law_2720 rfl dL_law_2721 rfl dL_law_2723 rfl dL_law_2724 rfl dL_law_2725 rfl ?_
  refine rl_callV (av := [.int (xs (i + 1)), .int (xs (i + 2))]) (rest := []) (sX12_listeners (g := g) (ω := ω) hω (mL_listeners μ (xs (i + 1)) (xs (i + 2))) (xs (i + 1)) (xs (i + 2)) hq2) lw_k_X12_listeners (rj_lt hω (k := 395) rfl) (rj_sh hω ly_395) rfl rfl hVX12_listeners ⟨Nat.le_of_ble_eq_true rfl, Nat.le_of_ble_eq_true rfl⟩ rfl rfl (Nat.le_of_ble_eq_true rfl) dL_law_2726 rfl (by omega) ?_
  exact rl_tailI hω (by omega) ht (fun h => (ho h).1) dL_law_2729 rfl dL_law_2731 rfl dL_law_2732 rfl dL_law_2735 rfl dL_law_2737 rfl dL_law_2742 rfl dL_law_2744 rfl rfl dL_law_2747 rfl dL_law_2748 rfl dL_law_2749 rfl dL_law_2750 rfl dL_law_2752 rfl dL_law_2753 rfl dL_law_2754 rfl dL_law_2759 rfl (K _ ω _ (by omega) hω (fun _ _ => rfl) hI2)

set_option maxHeartbeats 4000000 in
set_option maxRecDepth 100000 in
theorem lc_38 {g : rj_G} {hh : List (Nat × Nat × Nat × Nat)} {b L n u i : Nat} {xs : Nat → Int32} {ω : rj_W} {μ : rj_M} (hω : rj_ok ω) (hL : L ≤ 3072) (hi : i + 6 ≤ L) (hn : n ≤ 600) (hu : u ≤ 500000) (I : zi_I n μ μ) (K : rl_K g hh b L xs n u ω i) : rl_R g hh b L xs u ω μ (ll b ω.2.2 i) 2762 [] := by
  have op := fun (c r : rj_M) (h : zi_I n c r) => zu_outBy (c := c) (r := r) h
  obtain ⟨hI1, hI2, he⟩ := zl_B (n := n) (μ := μ) (M := fun c => c) (R := fun r => mX12_outBy r) (Fv := fun c => fX11_outBy c ) (Bv := fun r => fX12_outBy r) (fun c r h => ⟨(op c r h).1, (op c r h).2.2.1⟩) I
  have hq1 := (op μ μ I).2.2.2.1
  have hq2 := (op μ _ hI1).2.2.2.2
  refine rj_aload_n 1 dL_law_2762 rfl rfl ?_
  refine rl_callV (av := []) (rest := []) (sX11_outBy (g := g) (ω := ω) hω μ  hq1) lw_k_X11_outBy (rj_lt hω (k := 0) rfl) (rj_sh hω ly_0) rfl rfl hVX11_outBy ⟨Nat.le_of_ble_eq_true rfl, Nat.le_of_ble_eq_true rfl⟩ rfl rfl (Nat.le_of_ble_eq_true rfl) dL_law_2763 rfl (by omega) ?_
  refine rj_aload_n 2 dL_law_2766 rfl rfl ?_
  refine rl_callV (av := []) (rest := [.int (fX11_outBy μ)]) (sX12_outBy (g := g) (ω := ω) hω μ  hq2) lw_k_X12_outBy (rj_lt hω (k := 395) rfl) (rj_sh hω ly_395) rfl rfl hVX12_outBy ⟨Nat.le_of_ble_eq_true rfl, Nat.le_of_ble_eq_true rfl⟩ rfl rfl (Nat.le_of_ble_eq_true rfl) dL_law_2767 rfl (by omega) ?_
  exact rj_icmp_eq dL_law_2770 rfl rfl (fun _ => (K _ ω _ (by omega) hω (fun _ _ => rfl) hI2)) (fun h => absurd he h)

set_option maxHeartbeats 4000000 in
set_option maxRecDepth 100000 in
theorem lc_39 {g : rj_G} {hh : List (Nat × Nat × Nat × Nat)} {b L n u i : Nat} {xs : Nat → Int32} {ω : rj_W} {μ : rj_M} (hω : rj_ok ω) (hL : L ≤ 3072) (hi : i + 6 ≤ L) (hn : n ≤ 600) (hu : u ≤ 500000) (I : zi_I n μ μ) (K : rl_K g hh b L xs n u ω i) : rl_R g hh b L xs u ω μ (ll b ω.2.2 i) 2775 [] := by
  have op := fun (c r : rj_M) (h : zi_I n c r) => zu_cut (c := c) (r := r) h
  obtain ⟨hI1, hI2, he⟩ := zl_B (n := n) (μ := μ) (M := fun c => c) (R := fun r => mX12_cut r) (Fv := fun c => fX11_cut c ) (Bv := fun r => fX12_cut r) (fun c r h => ⟨(op c r h).1, (op c r h).2.2.1⟩) I
  have hq1 := (op μ μ I).2.2.2.1
  have hq2 := (op μ _ hI1).2.2.2.2
  refine rj_aload_n 1 dL_law_2775 rfl rfl ?_
  refine rl_callV (av := []) (rest := []) (sX11_cut (g := g) (ω := ω) hω μ  hq1) lw_k_X11_cut (rj_lt hω (k := 0) rfl) (rj_sh hω ly_0) rfl rfl hVX11_cut ⟨Nat.le_of_ble_eq_true rfl, Nat.le_of_ble_eq_true rfl⟩ rfl rfl (Nat.le_of_ble_eq_true rfl) dL_law_2776 rfl (by omega) ?_
  refine rj_aload_n 2 dL_law_2779 rfl rfl ?_
  refine rl_callV (av := []) (rest := [.int (fX11_cut μ)]) (sX12_cut (g := g) (ω := ω) hω μ  hq2) lw_k_X12_cut (rj_lt hω (k := 395) rfl) (rj_sh hω ly_395) rfl rfl hVX12_cut ⟨Nat.le_of_ble_eq_true rfl, Nat.le_of_ble_eq_true rfl⟩ rfl rfl (Nat.le_of_ble_eq_true rfl) dL_law_2780 rfl (by omega) ?_
  exact rj_icmp_eq dL_law_2783 rfl rfl (fun _ => (K _ ω _ (by omega) hω (fun _ _ => rfl) hI2)) (fun h => absurd he h)
