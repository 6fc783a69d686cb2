set_option maxHeartbeats 4000000 in
set_option maxRecDepth 100000 in
theorem lc_16 {g : rj_G} {hh : List (Nat × Nat × Nat × Nat)} {b L n u i : Nat} {xs : Nat → Int32} {ω : rj_W} {μ : rj_M} (hω : rj_ok ω) (hL : L ≤ 3072) (hi : i + 6 ≤ L) (hn : n ≤ 600) (hu : u ≤ 500000) (I : zi_I n μ μ) (K : rl_K g hh b L xs n u ω i) : rl_R g hh b L xs u ω μ (ll b ω.2.2 i) 1439 [] := by
  have op := fun (c r : rj_M) (h : zi_I n c r) => zo_setGenerator (c := c) (r := r) (a0 := (xs (i + 1))) (a1 := (xs (i + 2))) (a2 := (xs (i + 3))) (a3 := (xs (i + 4))) h
  obtain ⟨hx, hI1, hI2, ht, ho⟩ := zl_A (n := n) (μ := μ) (Ls := ["java/lang/IndexOutOfBoundsException", "java/lang/IllegalArgumentException"]) (F := fun c => fX11_setGenerator c (xs (i + 1)) (xs (i + 2)) (xs (i + 3)) (xs (i + 4))) (M := fun c => mX11_setGenerator c (xs (i + 1)) (xs (i + 2)) (xs (i + 3)) (xs (i + 4))) (R := fun r => mX12_setGenerator r (xs (i + 1)) (xs (i + 2)) (xs (i + 3)) (xs (i + 4))) (B := fun r => fX12_setGenerator r (xs (i + 1)) (xs (i + 2)) (xs (i + 3)) (xs (i + 4))) (cv := fun v => v.toInt64) (mL := (mL_setGenerator μ (xs (i + 1)) (xs (i + 2)) (xs (i + 3)) (xs (i + 4)))) (kk := (fL_setGenerator μ (xs (i + 1)) (xs (i + 2)) (xs (i + 3)) (xs (i + 4)))) (fun c r h => ⟨(op c r h).1, (op c r h).2.1⟩) (by decide) I rfl rfl
  have hq1 := (op μ μ I).2.2.1
  have hq2 := (op μ _ hI1).2.2.2
  refine rj_aload_n 1 dL_law_1439 rfl rfl ?_
  refine rl_arg (kk := 1) hL hi (by decide) (by decide) 0 5 rfl rfl dL_law_1440 rfl dL_law_1441 rfl dL_law_1443 rfl dL_law_1444 rfl dL_law_1445 rfl ?_
  refine rl_arg (kk := 2) hL hi (by decide) (by decide) 0 5 rfl rfl dL_law_1446 rfl dL_law_1447 rfl dL_law_1449 rfl dL_law_1450 rfl dL_law_1451 rfl ?_
  refine rl_arg (kk := 3) hL hi (by decide) (by decide) 0 5 rfl rfl dL_law_1452 rfl dL_law_1453 rfl dL_law_1455 rfl dL_law_1456 rfl dL_law_1457 rfl ?_
  refine rl_arg (kk := 4) hL hi (by decide) (by decide) 0 5 rfl rfl dL_law_1458 rfl dL_law_1459 rfl dL_law_1461 rfl dL_law_1462 rfl dL_law_1463 rfl ?_
  refine rj_aload_n 3 dL_law_1464 rfl rfl ?_
  refine rl_callW (av := [.ref (ω.2.2 0), .int (xs (i + 1)), .int (xs (i + 2)), .int (xs (i + 3)), .int (xs (i + 4)), .ref (ω.2.2 438)]) (rest := []) (sL_setGenerator (g := g) (ω := ω) hω μ (xs (i + 1)) (xs (i + 2)) (xs (i + 3)) (xs (i + 4)) hq1 hx) lw_k_L_setGenerator rfl hSL_setGenerator ⟨Nat.le_of_ble_eq_true rfl, Nat.le_of_ble_eq_true rfl⟩ rfl rfl (Nat.le_of_ble_eq_true rfl) dL_law_1465 rfl (by omega) ?_
  refine rj_istore (l' := (6, .int (fL_setGenerator μ (xs (i + 1)) (xs (i + 2)) (xs (i + 3)) (xs (i + 4)))) :: ll b ω.2.2 i) dL_law_1468 rfl (rj_bl rfl) rfl ?_
  refine rj_aload_n 3 dL_law_1470 rfl rfl ?_
  refine rl_arg (kk := 1) hL hi (by decide) (by decide) 1 6 rfl rfl dL_law_1471 rfl dL_law_1472 rfl dL_law_1474 rfl dL_law_1475 rfl dL_law_1476 rfl ?_
  refine rl_arg (kk := 2) hL hi (by decide) (by decide) 1 6 rfl rfl dL_law_1477 rfl dL_law_1478 rfl dL_law_1480 rfl dL_law_1481 rfl dL_law_1482 rfl ?_
  refine rl_arg (kk := 3) hL hi (by decide) (by decide) 1 6 rfl rfl dL_law_1483 rfl dL_law_1484 rfl dL_law_1486 rfl dL_law_1487 rfl dL_law_1488 rfl ?_
  refine rl_arg (kk := 4) hL hi (by decide) (by decide) 1 6 rfl rfl dL_law_1489 rfl dL_law_1490 rfl dL_law_1492 rfl dL_law_1493 rfl dL_law_1494 rfl ?_
  refine rl_callV (av := [.int (xs (i + 1)), .int (xs (i + 2)), .int (xs (i + 3)), .int (xs (i + 4))]) (rest := []) (sX12_setGenerator (g := g) (ω := ω) hω (mL_setGenerator μ (xs (i + 1)) (xs (i + 2)) (xs (i + 3)) (xs (i + 4))) (xs (i + 1)) (xs (i + 2)) (xs (i + 3)) (xs (i + 4)) hq2) lw_k_X12_setGenerator (rj_lt hω (k := 395) rfl) (rj_sh hω ly_395) rfl rfl hVX12_setGenerator ⟨Nat.le_of_ble_eq_true rfl, Nat.le_of_ble_eq_true rfl⟩ rfl rfl (Nat.le_of_ble_eq_true rfl) dL_law_1495 rfl (by omega) ?_
  exact rl_tailI hω (by omega) ht (fun h => (ho h).1) dL_law_1498 rfl dL_law_1500 rfl dL_law_1501 rfl dL_law_1504 rfl dL_law_1506 rfl dL_law_1511 rfl dL_law_1513 rfl rfl dL_law_1516 rfl dL_law_1517 rfl dL_law_1518 rfl dL_law_1519 rfl dL_law_1521 rfl dL_law_1522 rfl dL_law_1523 rfl dL_law_1528 rfl (K _ ω _ (by omega) hω (fun _ _ => rfl) hI2)

set_option maxHeartbeats 4000000 in
set_option maxRecDepth 100000 in
theorem lc_17 {g : rj_G} {hh : List (Nat × Nat × Nat × Nat)} {b L n u i : Nat} {xs : Nat → Int32} {ω : rj_W} {μ : rj_M} (hω : rj_ok ω) (hL : L ≤ 3072) (hi : i + 6 ≤ L) (hn : n ≤ 600) (hu : u ≤ 500000) (I : zi_I n μ μ) (K : rl_K g hh b L xs n u ω i) : rl_R g hh b L xs u ω μ (ll b ω.2.2 i) 1531 [] := by
  have op := fun (c r : rj_M) (h : zi_I n c r) => zo_moveAll (c := c) (r := r) h
  obtain ⟨hx, hI1, hI2, ht, ho⟩ := zl_A (n := n) (μ := μ) (Ls := ["java/lang/IllegalStateException"]) (F := fun c => fX11_moveAll c ) (M := fun c => mX11_moveAll c) (R := fun r => mX12_moveAll r) (B := fun r => fX12_moveAll r) (cv := fun v => v.toInt64) (mL := (mL_moveAll μ)) (kk := (fL_moveAll μ)) (fun c r h => ⟨(op c r h).1, (op c r h).2.1⟩) (by decide) I rfl rfl
  have hq1 := (op μ μ I).2.2.1
  have hq2 := (op μ _ hI1).2.2.2
  refine rj_aload_n 1 dL_law_1531 rfl rfl ?_
  refine rj_aload_n 3 dL_law_1532 rfl rfl ?_
  refine rl_callW (av := [.ref (ω.2.2 0), .ref (ω.2.2 438)]) (rest := []) (sL_moveAll (g := g) (ω := ω) hω μ  hq1 hx) lw_k_L_moveAll rfl hSL_moveAll ⟨Nat.le_of_ble_eq_true rfl, Nat.le_of_ble_eq_true rfl⟩ rfl rfl (Nat.le_of_ble_eq_true rfl) dL_law_1533 rfl (by omega) ?_
  refine rj_istore (l' := (6, .int (fL_moveAll μ)) :: ll b ω.2.2 i) dL_law_1536 rfl (rj_bl rfl) rfl ?_
  refine rj_aload_n 3 dL_law_1538 rfl rfl ?_
  refine rl_callV (av := []) (rest := []) (sX12_moveAll (g := g) (ω := ω) hω (mL_moveAll μ)  hq2) lw_k_X12_moveAll (rj_lt hω (k := 395) rfl) (rj_sh hω ly_395) rfl rfl hVX12_moveAll ⟨Nat.le_of_ble_eq_true rfl, Nat.le_of_ble_eq_true rfl⟩ rfl rfl (Nat.le_of_ble_eq_true rfl) dL_law_1539 rfl (by omega) ?_
  exact rl_tailI hω (by omega) ht (fun h => (ho h).1) dL_law_1542 rfl dL_law_1544 rfl dL_law_1545 rfl dL_law_1548 rfl dL_law_1550 rfl dL_law_1555 rfl dL_law_1557 rfl rfl dL_law_1560 rfl dL_law_1561 rfl dL_law_1562 rfl dL_law_1563 rfl dL_law_1565 rfl dL_law_1566 rfl dL_law_1567 rfl dL_law_1572 rfl (K _ ω _ (by omega) hω (fun _ _ => rfl) hI2)

set_option maxHeartbeats 4000000 in
set_option maxRecDepth 100000 in
theorem lc_18 {g : rj_G} {hh : List (Nat × Nat × Nat × Nat)} {b L n u i : Nat} {xs : Nat → Int32} {ω : rj_W} {μ : rj_M} (hω : rj_ok ω) (hL : L ≤ 3072) (hi : i + 6 ≤ L) (hn : n ≤ 600) (hu : u ≤ 500000) (I : zi_I n μ μ) (K : rl_K g hh b L xs n u ω i) : rl_R g hh b L xs u ω μ (ll b ω.2.2 i) 1575 [] := by
  have op := fun (c r : rj_M) (h : zi_I n c r) => zo_setPrice (c := c) (r := r) (a0 := (xs (i + 1))) (a1 := (xs (i + 2))) h
  obtain ⟨hx, hI1, hI2, ht, ho⟩ := zl_A (n := n) (μ := μ) (Ls := ["java/lang/IndexOutOfBoundsException", "java/lang/IllegalArgumentException"]) (F := fun c => fX11_setPrice c (xs (i + 1)) (xs (i + 2))) (M := fun c => mX11_setPrice c (xs (i + 1)) (xs (i + 2))) (R := fun r => mX12_setPrice r (xs (i + 1)) (xs (i + 2))) (B := fun r => fX12_setPrice r (xs (i + 1)) (xs (i + 2))) (cv := fun v => v.toInt64) (mL := (mL_setPrice μ (xs (i + 1)) (xs (i + 2)))) (kk := (fL_setPrice μ (xs (i + 1)) (xs (i + 2)))) (fun c r h => ⟨(op c r h).1, (op c r h).2.1⟩) (by decide) I rfl rfl
  have hq1 := (op μ μ I).2.2.1
  have hq2 := (op μ _ hI1).2.2.2
  refine rj_aload_n 1 dL_law_1575 rfl rfl ?_
  refine rl_arg (kk := 1) hL hi (by decide) (by decide) 0 5 rfl rfl dL_law_1576 rfl dL_law_1577 rfl dL_law_1579 rfl dL_law_1580 rfl dL_law_1581 rfl ?_
  refine rl_arg (kk := 2) hL hi (by decide) (by decide) 0 5 rfl rfl dL_law_1582 rfl dL_law_1583 rfl dL_law_1585 rfl dL_law_1586 rfl dL_law_1587 rfl ?_
  refine rj_aload_n 3 dL_law_1588 rfl rfl ?_
  refine rl_callW (av := [.ref (ω.2.2 0), .int (xs (i + 1)), .int (xs (i + 2)), .ref (ω.2.2 438)]) (rest := []) (sL_setPrice (g := g) (ω := ω) hω μ (xs (i + 1)) (xs (i + 2)) hq1 hx) lw_k_L_setPrice rfl hSL_setPrice ⟨Nat.le_of_ble_eq_true rfl, Nat.le_of_ble_eq_true rfl⟩ rfl rfl (Nat.le_of_ble_eq_true rfl) dL_law_1589 rfl (by omega) ?_
  refine rj_istore (l' := (6, .int (fL_setPrice μ (xs (i + 1)) (xs (i + 2)))) :: ll b ω.2.2 i) dL_law_1592 rfl (rj_bl rfl) rfl ?_
  refine rj_aload_n 3 dL_law_1594 rfl rfl ?_
  refine rl_arg (kk := 1) hL hi (by decide) (by decide) 1 6 rfl rfl dL_law_1595 rfl dL_law_1596 rfl dL_law_1598 rfl dL_law_1599 rfl dL_law_1600 rfl ?_
  refine rl_arg (kk := 2) hL hi (by decide) (by decide) 1 6 rfl rfl dL_law_1601 rfl dL_law_1602 rfl dL_law_1604 rfl dL_law_1605 rfl dL_law_1606 rfl ?_
  refine rl_callV (av := [.int (xs (i + 1)), .int (xs (i + 2))]) (rest := []) (sX12_setPrice (g := g) (ω := ω) hω (mL_setPrice μ (xs (i + 1)) (xs (i + 2))) (xs (i + 1)) (xs (i + 2)) hq2) lw_k_X12_setPrice (rj_lt hω (k := 395) rfl) (rj_sh hω ly_395) rfl rfl hVX12_setPrice ⟨Nat.le_of_ble_eq_true rfl, Nat.le_of_ble_eq_true rfl⟩ rfl rfl (Nat.le_of_ble_eq_true rfl) dL_law_1607 rfl (by omega) ?_
  exact rl_tailI hω (by omega) ht (fun h => (ho h).1) dL_law_1610 rfl dL_law_1612 rfl dL_law_1613 rfl dL_law_1616 rfl dL_law_1618 rfl dL_law_1623 rfl dL_law_1625 rfl rfl dL_law_1628 rfl dL_law_1629 rfl dL_law_1630 rfl dL_law_1631 rfl dL_law_1633 rfl dL_law_1634 rfl dL_law_1635 rfl dL_law_1640 rfl (K _ ω _ (by omega) hω (fun _ _ => rfl) hI2)

set_option maxHeartbeats 4000000 in
set_option maxRecDepth 100000 in
theorem lc_19 {g : rj_G} {hh : List (Nat × Nat × Nat × Nat)} {b L n u i : Nat} {xs : Nat → Int32} {ω : rj_W} {μ : rj_M} (hω : rj_ok ω) (hL : L ≤ 3072) (hi : i + 6 ≤ L) (hn : n ≤ 600) (hu : u ≤ 500000) (I : zi_I n μ μ) (K : rl_K g hh b L xs n u ω i) : rl_R g hh b L xs u ω μ (ll b ω.2.2 i) 1643 [] := by
  have op := fun (c r : rj_M) (h : zi_I n c r) => zo_ticket (c := c) (r := r) (a0 := (xs (i + 1))) (a1 := (xs (i + 2))) (a2 := (xs (i + 3))) h
  obtain ⟨hx, hI1, hI2, ht, ho⟩ := zl_A (n := n) (μ := μ) (Ls := ["java/lang/IndexOutOfBoundsException", "java/lang/IllegalArgumentException", "java/lang/IllegalStateException"]) (F := fun c => fX11_ticket c (xs (i + 1)) (xs (i + 2)) (xs (i + 3))) (M := fun c => mX11_ticket c (xs (i + 1)) (xs (i + 2)) (xs (i + 3))) (R := fun r => mX12_ticket r (xs (i + 1)) (xs (i + 2)) (xs (i + 3))) (B := fun r => fX12_ticket r (xs (i + 1)) (xs (i + 2)) (xs (i + 3))) (cv := fun v => v.toInt64) (mL := (mL_ticket μ (xs (i + 1)) (xs (i + 2)) (xs (i + 3)))) (kk := (fL_ticket μ (xs (i + 1)) (xs (i + 2)) (xs (i + 3)))) (fun c r h => ⟨(op c r h).1, (op c r h).2.1⟩) (by decide) I rfl rfl
  have hq1 := (op μ μ I).2.2.1
  have hq2 := (op μ _ hI1).2.2.2
  refine rj_aload_n 1 dL_law_1643 rfl rfl ?_
  refine rl_arg (kk := 1) hL hi (by decide) (by decide) 0 5 rfl rfl dL_law_1644 rfl dL_law_1645 rfl dL_law_1647 rfl dL_law_1648 rfl dL_law_1649 rfl ?_
  refine rl_arg (kk := 2) hL hi (by decide) (by decide) 0 5 rfl rfl dL_law_1650 rfl dL_law_1651 rfl dL_law_1653 rfl dL_law_1654 rfl dL_law_1655 rfl ?_
  refine rl_arg (kk := 3) hL hi (by decide) (by decide) 0 5 rfl rfl dL_law_1656 rfl dL_law_1657 rfl dL_law_1659 rfl dL_law_1660 rfl dL_law_1661 rfl ?_
  refine rj_aload_n 3 dL_law_1662 rfl rfl ?_
  refine rl_callW (av := [.ref (ω.2.2 0), .int (xs (i + 1)), .int (xs (i + 2)), .int (xs (i + 3)), .ref (ω.2.2 438)]) (rest := []) (sL_ticket (g := g) (ω := ω) hω μ (xs (i + 1)) (xs (i + 2)) (xs (i + 3)) hq1 hx) lw_k_L_ticket rfl hSL_ticket ⟨Nat.le_of_ble_eq_true rfl, Nat.le_of_ble_eq_true rfl⟩ rfl rfl (Nat.le_of_ble_eq_true rfl) dL_law_1663 rfl (by omega) ?_
  refine rj_istore (l' := (6, .int (fL_ticket μ (xs (i + 1)) (xs (i + 2)) (xs (i + 3)))) :: ll b ω.2.2 i) dL_law_1666 rfl (rj_bl rfl) rfl ?_
  refine rj_aload_n 3 dL_law_1668 rfl rfl ?_
  refine rl_arg (kk := 1) hL hi (by decide) (by decide) 1 6 rfl rfl dL_law_1669 rfl dL_law_1670 rfl dL_law_1672 rfl dL_law_1673 rfl dL_law_1674 rfl ?_
  refine rl_arg (kk := 2) hL hi (by decide) (by decide) 1 6 rfl rfl dL_law_1675 rfl dL_law_1676 rfl dL_law_1678 rfl dL_law_1679 rfl dL_law_1680 rfl ?_
  refine rl_arg (kk := 3) hL hi (by decide) (by decide) 1 6 rfl rfl dL_law_1681 rfl dL_law_1682 rfl dL_law_1684 rfl dL_law_1685 rfl dL_law_1686 rfl ?_
  refine rl_callV (av := [.int (xs (i + 1)), .int (xs (i + 2)), .int (xs (i + 3))]) (rest := []) (sX12_ticket (g := g) (ω := ω) hω (mL_ticket μ (xs (i + 1)) (xs (i + 2)) (xs (i + 3))) (xs (i + 1)) (xs (i + 2)) (xs (i + 3)) hq2) lw_k_X12_ticket (rj_lt hω (k := 395) rfl) (rj_sh hω ly_395) rfl rfl hVX12_ticket ⟨Nat.le_of_ble_eq_true rfl, Nat.le_of_ble_eq_true rfl⟩ rfl rfl (Nat.le_of_ble_eq_true rfl) dL_law_1687 rfl (by omega) ?_
  exact rl_tailI hω (by omega) ht (fun h => (ho h).1) dL_law_1690 rfl dL_law_1692 rfl dL_law_1693 rfl dL_law_1696 rfl dL_law_1698 rfl dL_law_1703 rfl dL_law_1705 rfl rfl dL_law_1708 rfl dL_law_1709 rfl dL_law_1710 rfl dL_law_1711 rfl dL_law_1713 rfl dL_law_1714 rfl dL_law_1715 rfl dL_law_1720 rfl (K _ ω _ (by omega) hω (fun _ _ => rfl) hI2)

set_option maxHeartbeats 4000000 in
set_option maxRecDepth 100000 in
theorem lc_20 {g : rj_G} {hh : List (Nat × Nat × Nat × Nat)} {b L n u i : Nat} {xs : Nat → Int32} {ω : rj_W} {μ : rj_M} (hω : rj_ok ω) (hL : L ≤ 3072) (hi : i + 6 ≤ L) (hn : n ≤ 600) (hu : u ≤ 500000) (I : zi_I n μ μ) (K : rl_K g hh b L xs n u ω i) : rl_R g hh b L xs u ω μ (ll b ω.2.2 i) 1723 [] := by
  have op := fun (c r : rj_M) (h : zi_I n c r) => zo_refund (c := c) (r := r) (a0 := (xs (i + 1))) (a1 := (xs (i + 2))) h
  obtain ⟨hx, hI1, hI2, ht, ho⟩ := zl_A (n := n) (μ := μ) (Ls := ["java/lang/IndexOutOfBoundsException", "java/util/NoSuchElementException"]) (F := fun c => fX11_refund c (xs (i + 1)) (xs (i + 2))) (M := fun c => mX11_refund c (xs (i + 1)) (xs (i + 2))) (R := fun r => mX12_refund r (xs (i + 1)) (xs (i + 2))) (B := fun r => fX12_refund r (xs (i + 1)) (xs (i + 2))) (cv := fun v => v.toInt64) (mL := (mL_refund μ (xs (i + 1)) (xs (i + 2)))) (kk := (fL_refund μ (xs (i + 1)) (xs (i + 2)))) (fun c r h => ⟨(op c r h).1, (op c r h).2.1⟩) (by decide) I rfl rfl
  have hq1 := (op μ μ I).2.2.1
  have hq2 := (op μ _ hI1).2.2.2
  refine rj_aload_n 1 dL_law_1723 rfl rfl ?_
  refine rl_arg (kk := 1) hL hi (by decide) (by decide) 0 5 rfl rfl dL_law_1724 rfl dL_law_1725 rfl dL_law_1727 rfl dL_law_1728 rfl dL_law_1729 rfl ?_
  refine rl_arg (kk := 2) hL hi (by decide) (by decide) 0 5 rfl rfl dL_law_1730 rfl dL_law_1731 rfl dL_law_1733 rfl dL_law_1734 rfl dL_law_1735 rfl ?_
  refine rj_aload_n 3 dL_law_1736 rfl rfl ?_
  refine rl_callW (av := [.ref (ω.2.2 0), .int (xs (i + 1)), .int (xs (i + 2)), .ref (ω.2.2 438)]) (rest := []) (sL_refund (g := g) (ω := ω) hω μ (xs (i + 1)) (xs (i + 2)) hq1 hx) lw_k_L_refund rfl hSL_refund ⟨Nat.le_of_ble_eq_true rfl, Nat.le_of_ble_eq_true rfl⟩ rfl rfl (Nat.le_of_ble_eq_true rfl) dL_law_1737 rfl (by omega) ?_
  refine rj_istore (l' := (6, .int (fL_refund μ (xs (i + 1)) (xs (i + 2)))) :: ll b ω.2.2 i) dL_law_1740 rfl (rj_bl rfl) rfl ?_
  refine rj_aload_n 3 dL_law_1742 rfl rfl ?_
  refine rl_arg (kk := 1) hL hi (by decide) (by decide) 1 6 rfl rfl dL_law_1743 rfl dL_law_1744 rfl dL_law_1746 rfl dL_law_1747 rfl dL_law_1748 rfl ?_
  refine rl_arg (kk := 2) hL hi (by decide) (by decide) 1 6 rfl rfl dL_law_1749 rfl dL_law_1750 rfl dL_law_1752 rfl dL_law_1753 rfl dL_law_1754 rfl ?_
  refine rl_callV (av := [.int (xs (i + 1)), .int (xs (i + 2))]) (rest := []) (sX12_refund (g := g) (ω := ω) hω (mL_refund μ (xs (i + 1)) (xs (i + 2))) (xs (i + 1)) (xs (i + 2)) hq2) lw_k_X12_refund (rj_lt hω (k := 395) rfl) (rj_sh hω ly_395) rfl rfl hVX12_refund ⟨Nat.le_of_ble_eq_true rfl, Nat.le_of_ble_eq_true rfl⟩ rfl rfl (Nat.le_of_ble_eq_true rfl) dL_law_1755 rfl (by omega) ?_
  exact rl_tailI hω (by omega) ht (fun h => (ho h).1) dL_law_1758 rfl dL_law_1760 rfl dL_law_1761 rfl dL_law_1764 rfl dL_law_1766 rfl dL_law_1771 rfl dL_law_1773 rfl rfl dL_law_1776 rfl dL_law_1777 rfl dL_law_1778 rfl dL_law_1779 rfl dL_law_1781 rfl dL_law_1782 rfl dL_law_1783 rfl dL_law_1788 rfl (K _ ω _ (by omega) hω (fun _ _ => rfl) hI2)

set_option maxHeartbeats 4000000 in
set_option maxRecDepth 100000 in
theorem lc_21 {g : rj_G} {hh : List (Nat × Nat × Nat × Nat)} {b L n u i : Nat} {xs : Nat → Int32} {ω : rj_W} {μ : rj_M} (hω : rj_ok ω) (hL : L ≤ 3072) (hi : i + 6 ≤ L) (hn : n ≤ 600) (hu : u ≤ 500000) (I : zi_I n μ μ) (K : rl_K g hh b L xs n u ω i) : rl_R g hh b L xs u ω μ (ll b ω.2.2 i) 1791 [] := by
  have op := fun (c r : rj_M) (h : zi_I n c r) => zo_resell (c := c) (r := r) (a0 := (xs (i + 1))) (a1 := (xs (i + 2))) (a2 := (xs (i + 3))) h
  obtain ⟨hx, hI1, hI2, ht, ho⟩ := zl_A (n := n) (μ := μ) (Ls := ["java/lang/IndexOutOfBoundsException", "java/util/NoSuchElementException", "java/lang/IllegalStateException"]) (F := fun c => fX11_resell c (xs (i + 1)) (xs (i + 2)) (xs (i + 3))) (M := fun c => mX11_resell c (xs (i + 1)) (xs (i + 2)) (xs (i + 3))) (R := fun r => mX12_resell r (xs (i + 1)) (xs (i + 2)) (xs (i + 3))) (B := fun r => fX12_resell r (xs (i + 1)) (xs (i + 2)) (xs (i + 3))) (cv := fun v => v.toInt64) (mL := (mL_resell μ (xs (i + 1)) (xs (i + 2)) (xs (i + 3)))) (kk := (fL_resell μ (xs (i + 1)) (xs (i + 2)) (xs (i + 3)))) (fun c r h => ⟨(op c r h).1, (op c r h).2.1⟩) (by decide) I rfl rfl
  have hq1 := (op μ μ I).2.2.1
  have hq2 := (op μ _ hI1).2.2.2
  refine rj_aload_n 1 dL_law_1791 rfl rfl ?_
  refine rl_arg (kk := 1) hL hi (by decide) (by decide) 0 5 rfl rfl dL_law_1792 rfl dL_law_1793 rfl dL_law_1795 rfl dL_law_1796 rfl dL_law_1797 rfl ?_
  refine rl_arg (kk := 2) hL hi (by decide) (by decide) 0 5 rfl rfl dL_law_1798 rfl dL_law_1799 rfl dL_law_1801 rfl dL_law_1802 rfl dL_law_1803 rfl ?_
  refine rl_arg (kk := 3) hL hi (by decide) (by decide) 0 5 rfl rfl dL_law_1804 rfl dL_law_1805 rfl dL_law_1807 rfl dL_law_1808 rfl dL_law_1809 rfl ?_
  refine rj_aload_n 3 dL_law_1810 rfl rfl ?_
  refine rl_callW (av := [.ref (ω.2.2 0), .int (xs (i + 1)), .int (xs (i + 2)), .int (xs (i + 3)), .ref (ω.2.2 438)]) (rest := []) (sL_resell (g := g) (ω := ω) hω μ (xs (i + 1)) (xs (i + 2)) (xs (i + 3)) hq1 hx) lw_k_L_resell rfl hSL_resell ⟨Nat.le_of_ble_eq_true rfl, Nat.le_of_ble_eq_true rfl⟩ rfl rfl (Nat.le_of_ble_eq_true rfl) dL_law_1811 rfl (by omega) ?_
  refine rj_istore (l' := (6, .int (fL_resell μ (xs (i + 1)) (xs (i + 2)) (xs (i + 3)))) :: ll b ω.2.2 i) dL_law_1814 rfl (rj_bl rfl) rfl ?_
  refine rj_aload_n 3 dL_law_1816 rfl rfl ?_
  refine rl_arg (kk := 1) hL hi (by decide) (by decide) 1 6 rfl rfl dL_law_1817 rfl dL_law_1818 rfl dL_law_1820 rfl dL_law_1821 rfl dL_law_1822 rfl ?_
  refine rl_arg (kk := 2) hL hi (by decide) (by decide) 1 6 rfl rfl dL_law_1823 rfl dL_law_1824 rfl dL_law_1826 rfl dL_law_1827 rfl dL_law_1828 rfl ?_
  refine rl_arg (kk := 3) hL hi (by decide) (by decide) 1 6 rfl rfl dL_law_1829 rfl dL_law_1830 rfl dL_law_1832 rfl dL_law_1833 rfl dL_law_1834 rfl ?_
  refine rl_callV (av := [.int (xs (i + 1)), .int (xs (i + 2)), .int (xs (i + 3))]) (rest := []) (sX12_resell (g := g) (ω := ω) hω (mL_resell μ (xs (i + 1)) (xs (i + 2)) (xs (i + 3))) (xs (i + 1)) (xs (i + 2)) (xs (i + 3)) hq2) lw_k_X12_resell (rj_lt hω (k := 395) rfl) (rj_sh hω ly_395) rfl rfl hVX12_resell ⟨Nat.le_of_ble_eq_true rfl, Nat.le_of_ble_eq_true rfl⟩ rfl rfl (Nat.le_of_ble_eq_true rfl) dL_law_1835 rfl (by omega) ?_
  exact rl_tailI hω (by omega) ht (fun h => (ho h).1) dL_law_1838 rfl dL_law_1840 rfl dL_law_1841 rfl dL_law_1844 rfl dL_law_1846 rfl dL_law_1851 rfl dL_law_1853 rfl rfl dL_law_1856 rfl dL_law_1857 rfl dL_law_1858 rfl dL_law_1859 rfl dL_law_1861 rfl dL_law_1862 rfl dL_law_1863 rfl dL_law_1868 rfl (K _ ω _ (by omega) hω (fun _ _ => rfl) hI2)

set_option maxHeartbeats 4000000 in
set_option maxRecDepth 100000 in
theorem lc_22 {g : rj_G} {hh : List (Nat × Nat × Nat × Nat)} {b L n u i : Nat} {xs : Nat → Int32} {ω : rj_W} {μ : rj_M} (hω : rj_ok ω) (hL : L ≤ 3072) (hi : i + 6 ≤ L) (hn : n ≤ 600) (hu : u ≤ 500000) (I : zi_I n μ μ) (K : rl_K g hh b L xs n u ω i) : rl_R g hh b L xs u ω μ (ll b ω.2.2 i) 1871 [] := by
  have op := fun (c r : rj_M) (h : zi_I n c r) => zo_payBands (c := c) (r := r) h (by omega)
  obtain ⟨hI1, hI2, he⟩ := zl_B (n := n) (μ := μ) (M := fun c => mX11_payBands c) (R := fun r => mX12_payBands r) (Fv := fun c => fX11_payBands c ) (Bv := fun r => fX12_payBands r) (fun c r h => ⟨(op c r h).1, (op c r h).2.2.1⟩) I
  have hq1 := (op μ μ I).2.2.2.1
  have hq2 := (op μ _ hI1).2.2.2.2
  refine rj_aload_n 1 dL_law_1871 rfl rfl ?_
  refine rl_callV (av := []) (rest := []) (sX11_payBands (g := g) (ω := ω) hω μ  hq1) lw_k_X11_payBands (rj_lt hω (k := 0) rfl) (rj_sh hω ly_0) rfl rfl hVX11_payBands ⟨Nat.le_of_ble_eq_true rfl, Nat.le_of_ble_eq_true rfl⟩ rfl rfl (Nat.le_of_ble_eq_true rfl) dL_law_1872 rfl (by omega) ?_
  refine rj_aload_n 2 dL_law_1875 rfl rfl ?_
  refine rl_callV (av := []) (rest := [.int (fX11_payBands μ)]) (sX12_payBands (g := g) (ω := ω) hω (mX11_payBands μ)  hq2) lw_k_X12_payBands (rj_lt hω (k := 395) rfl) (rj_sh hω ly_395) rfl rfl hVX12_payBands ⟨Nat.le_of_ble_eq_true rfl, Nat.le_of_ble_eq_true rfl⟩ rfl rfl (Nat.le_of_ble_eq_true rfl) dL_law_1876 rfl (by omega) ?_
  exact rj_icmp_eq dL_law_1879 rfl rfl (fun _ => (K _ ω _ (by omega) hω (fun _ _ => rfl) hI2)) (fun h => absurd he h)

set_option maxHeartbeats 4000000 in
set_option maxRecDepth 100000 in
theorem lc_23 {g : rj_G} {hh : List (Nat × Nat × Nat × Nat)} {b L n u i : Nat} {xs : Nat → Int32} {ω : rj_W} {μ : rj_M} (hω : rj_ok ω) (hL : L ≤ 3072) (hi : i + 6 ≤ L) (hn : n ≤ 600) (hu : u ≤ 500000) (I : zi_I n μ μ) (K : rl_K g hh b L xs n u ω i) : rl_R g hh b L xs u ω μ (ll b ω.2.2 i) 1884 [] := by
  have op := fun (c r : rj_M) (h : zi_I n c r) => zo_lose (c := c) (r := r) (a0 := (xs (i + 1))) (a1 := (xs (i + 2))) h
  obtain ⟨hx, hI1, hI2, ht, ho⟩ := zl_A (n := n) (μ := μ) (Ls := ["java/lang/IndexOutOfBoundsException", "java/lang/IllegalArgumentException"]) (F := fun c => fX11_lose c (xs (i + 1)) (xs (i + 2))) (M := fun c => mX11_lose c (xs (i + 1)) (xs (i + 2))) (R := fun r => mX12_lose r (xs (i + 1)) (xs (i + 2))) (B := fun r => fX12_lose r (xs (i + 1)) (xs (i + 2))) (cv := fun v => v.toInt64) (mL := (mL_lose μ (xs (i + 1)) (xs (i + 2)))) (kk := (fL_lose μ (xs (i + 1)) (xs (i + 2)))) (fun c r h => ⟨(op c r h).1, (op c r h).2.1⟩) (by decide) I rfl rfl
  have hq1 := (op μ μ I).2.2.1
  have hq2 := (op μ _ hI1).2.2.2
  refine rj_aload_n 1 dL_law_1884 rfl rfl ?_
  refine rl_arg (kk := 1) hL hi (by decide) (by decide) 0 5 rfl rfl dL_law_1885 rfl dL_law_1886 rfl dL_law_1888 rfl dL_law_1889 rfl dL_law_1890 rfl ?_
  refine rl_arg (kk := 2) hL hi (by decide) (by decide) 0 5 rfl rfl dL_law_1891 rfl dL_law_1892 rfl dL_law_1894 rfl dL_law_1895 rfl dL_law_1896 rfl ?_
  refine rj_aload_n 3 dL_law_1897 rfl rfl ?_
  refine rl_callW (av := [.ref (ω.2.2 0), .int (xs (i + 1)), .int (xs (i + 2)), .ref (ω.2.2 438)]) (rest := []) (sL_lose (g := g) (ω := ω) hω μ (xs (i + 1)) (xs (i + 2)) hq1 hx) lw_k_L_lose rfl hSL_lose ⟨Nat.le_of_ble_eq_true rfl, Nat.le_of_ble_eq_true rfl⟩ rfl rfl (Nat.le_of_ble_eq_true rfl) dL_law_1898 rfl (by omega) ?_
  refine rj_istore (l' := (6, .int (fL_lose μ (xs (i + 1)) (xs (i + 2)))) :: ll b ω.2.2 i) dL_law_1901 rfl (rj_bl rfl) rfl ?_
  refine rj_aload_n 3 dL_law_1903 rfl rfl ?_
  refine rl_arg (kk := 1) hL hi (by decide) (by decide) 1 6 rfl rfl dL_law_1904 rfl dL_law_1905 rfl dL_law_1907 rfl dL_law_1908 rfl dL_law_1909 rfl ?_
  refine rl_arg (kk := 2) hL hi (by decide) (by decide) 1 6 rfl rfl dL_law_1910 rfl dL_law_1911 rfl dL_law_1913 rfl dL_law_1914 rfl dL_law_1915 rfl ?_
  refine rl_callV (av := [.int (xs (i + 1)), .int (xs (i + 2))]) (rest := []) (sX12_lose (g := g) (ω := ω) hω (mL_lose μ (xs (i + 1)) (xs (i + 2))) (xs (i + 1)) (xs (i + 2)) hq2) lw_k_X12_lose (rj_lt hω (k := 395) rfl) (rj_sh hω ly_395) rfl rfl hVX12_lose ⟨Nat.le_of_ble_eq_true rfl, Nat.le_of_ble_eq_true rfl⟩ rfl rfl (Nat.le_of_ble_eq_true rfl) dL_law_1916 rfl (by omega) ?_
  exact rl_tailI hω (by omega) ht (fun h => (ho h).1) dL_law_1919 rfl dL_law_1921 rfl dL_law_1922 rfl dL_law_1925 rfl dL_law_1927 rfl dL_law_1932 rfl dL_law_1934 rfl rfl dL_law_1937 rfl dL_law_1938 rfl dL_law_1939 rfl dL_law_1940 rfl dL_law_1942 rfl dL_law_1943 rfl dL_law_1944 rfl dL_law_1949 rfl (K _ ω _ (by omega) hω (fun _ _ => rfl) hI2)
