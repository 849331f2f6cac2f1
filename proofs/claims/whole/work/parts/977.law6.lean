/-! LAW: single, front, mark -/
theorem dc_L_law_1417 : decode code 1417 = .ok (.aload_n 1, 1) := by decide +kernel
theorem dc_L_law_1418 : decode code 1418 = .ok (.aload_n 0, 1) := by decide +kernel
theorem dc_L_law_1419 : decode code 1419 = .ok (.iload 4, 2) := by decide +kernel
theorem dc_L_law_1421 : decode code 1421 = .ok (.iconst 1, 1) := by decide +kernel
theorem dc_L_law_1422 : decode code 1422 = .ok (.iadd, 1) := by decide +kernel
theorem dc_L_law_1423 : decode code 1423 = .ok (.iaload, 1) := by decide +kernel
theorem dc_L_law_1424 : decode code 1424 = .ok (.aload_n 0, 1) := by decide +kernel
theorem dc_L_law_1425 : decode code 1425 = .ok (.iload 4, 2) := by decide +kernel
theorem dc_L_law_1427 : decode code 1427 = .ok (.iconst 2, 1) := by decide +kernel
theorem dc_L_law_1428 : decode code 1428 = .ok (.iadd, 1) := by decide +kernel
theorem dc_L_law_1429 : decode code 1429 = .ok (.iaload, 1) := by decide +kernel
theorem dc_L_law_1430 : decode code 1430 = .ok (.aload_n 3, 1) := by decide +kernel
theorem dc_L_law_1431 : decode code 1431 = .ok (.invokestatic 166, 3) := by decide +kernel
theorem dc_L_law_1434 : decode code 1434 = .ok (.istore 5, 2) := by decide +kernel
theorem dc_L_law_1436 : decode code 1436 = .ok (.aload_n 2, 1) := by decide +kernel
theorem dc_L_law_1437 : decode code 1437 = .ok (.aload_n 0, 1) := by decide +kernel
theorem dc_L_law_1438 : decode code 1438 = .ok (.iload 4, 2) := by decide +kernel
theorem dc_L_law_1440 : decode code 1440 = .ok (.iconst 1, 1) := by decide +kernel
theorem dc_L_law_1441 : decode code 1441 = .ok (.iadd, 1) := by decide +kernel
theorem dc_L_law_1442 : decode code 1442 = .ok (.iaload, 1) := by decide +kernel
theorem dc_L_law_1443 : decode code 1443 = .ok (.aload_n 0, 1) := by decide +kernel
theorem dc_L_law_1444 : decode code 1444 = .ok (.iload 4, 2) := by decide +kernel
theorem dc_L_law_1446 : decode code 1446 = .ok (.iconst 2, 1) := by decide +kernel
theorem dc_L_law_1447 : decode code 1447 = .ok (.iadd, 1) := by decide +kernel
theorem dc_L_law_1448 : decode code 1448 = .ok (.iaload, 1) := by decide +kernel
theorem dc_L_law_1449 : decode code 1449 = .ok (.invokevirtual 168, 3) := by decide +kernel
theorem dc_L_law_1452 : decode code 1452 = .ok (.istore 6, 2) := by decide +kernel
theorem dc_L_law_1454 : decode code 1454 = .ok (.aload_n 2, 1) := by decide +kernel
theorem dc_L_law_1455 : decode code 1455 = .ok (.invokevirtual 100, 3) := by decide +kernel
theorem dc_L_law_1458 : decode code 1458 = .ok (.iload 5, 2) := by decide +kernel
theorem dc_L_law_1460 : decode code 1460 = .ok (.if_icmp .eq 5, 3) := by decide +kernel
theorem dc_L_law_1463 : decode code 1463 = .ok (.iconst 0, 1) := by decide +kernel
theorem dc_L_law_1464 : decode code 1464 = .ok (.ireturn, 1) := by decide +kernel
theorem dc_L_law_1465 : decode code 1465 = .ok (.iload 5, 2) := by decide +kernel
theorem dc_L_law_1467 : decode code 1467 = .ok (.ifCond .ne 15, 3) := by decide +kernel
theorem dc_L_law_1470 : decode code 1470 = .ok (.aload_n 3, 1) := by decide +kernel
theorem dc_L_law_1471 : decode code 1471 = .ok (.iconst 0, 1) := by decide +kernel
theorem dc_L_law_1472 : decode code 1472 = .ok (.laload, 1) := by decide +kernel
theorem dc_L_law_1473 : decode code 1473 = .ok (.iload 6, 2) := by decide +kernel
theorem dc_L_law_1475 : decode code 1475 = .ok (.i2l, 1) := by decide +kernel
theorem dc_L_law_1476 : decode code 1476 = .ok (.lcmp, 1) := by decide +kernel
theorem dc_L_law_1477 : decode code 1477 = .ok (.ifCond .eq 5, 3) := by decide +kernel
theorem dc_L_law_1480 : decode code 1480 = .ok (.iconst 0, 1) := by decide +kernel
theorem dc_L_law_1481 : decode code 1481 = .ok (.ireturn, 1) := by decide +kernel
theorem dc_L_law_1482 : decode code 1482 = .ok (.goto 118, 3) := by decide +kernel
theorem dc_L_law_1485 : decode code 1485 = .ok (.aload_n 1, 1) := by decide +kernel
theorem dc_L_law_1486 : decode code 1486 = .ok (.aload_n 0, 1) := by decide +kernel
theorem dc_L_law_1487 : decode code 1487 = .ok (.iload 4, 2) := by decide +kernel
theorem dc_L_law_1489 : decode code 1489 = .ok (.iconst 1, 1) := by decide +kernel
theorem dc_L_law_1490 : decode code 1490 = .ok (.iadd, 1) := by decide +kernel
theorem dc_L_law_1491 : decode code 1491 = .ok (.iaload, 1) := by decide +kernel
theorem dc_L_law_1492 : decode code 1492 = .ok (.aload_n 0, 1) := by decide +kernel
theorem dc_L_law_1493 : decode code 1493 = .ok (.iload 4, 2) := by decide +kernel
theorem dc_L_law_1495 : decode code 1495 = .ok (.iconst 2, 1) := by decide +kernel
theorem dc_L_law_1496 : decode code 1496 = .ok (.iadd, 1) := by decide +kernel
theorem dc_L_law_1497 : decode code 1497 = .ok (.iaload, 1) := by decide +kernel
theorem dc_L_law_1498 : decode code 1498 = .ok (.aload_n 0, 1) := by decide +kernel
theorem dc_L_law_1499 : decode code 1499 = .ok (.iload 4, 2) := by decide +kernel
theorem dc_L_law_1501 : decode code 1501 = .ok (.iconst 3, 1) := by decide +kernel
theorem dc_L_law_1502 : decode code 1502 = .ok (.iadd, 1) := by decide +kernel
theorem dc_L_law_1503 : decode code 1503 = .ok (.iaload, 1) := by decide +kernel
theorem dc_L_law_1504 : decode code 1504 = .ok (.invokestatic 169, 3) := by decide +kernel
theorem dc_L_law_1507 : decode code 1507 = .ok (.istore 5, 2) := by decide +kernel
theorem dc_L_law_1509 : decode code 1509 = .ok (.aload_n 2, 1) := by decide +kernel
theorem dc_L_law_1510 : decode code 1510 = .ok (.aload_n 0, 1) := by decide +kernel
theorem dc_L_law_1511 : decode code 1511 = .ok (.iload 4, 2) := by decide +kernel
theorem dc_L_law_1513 : decode code 1513 = .ok (.iconst 1, 1) := by decide +kernel
theorem dc_L_law_1514 : decode code 1514 = .ok (.iadd, 1) := by decide +kernel
theorem dc_L_law_1515 : decode code 1515 = .ok (.iaload, 1) := by decide +kernel
theorem dc_L_law_1516 : decode code 1516 = .ok (.aload_n 0, 1) := by decide +kernel
theorem dc_L_law_1517 : decode code 1517 = .ok (.iload 4, 2) := by decide +kernel
theorem dc_L_law_1519 : decode code 1519 = .ok (.iconst 2, 1) := by decide +kernel
theorem dc_L_law_1520 : decode code 1520 = .ok (.iadd, 1) := by decide +kernel
theorem dc_L_law_1521 : decode code 1521 = .ok (.iaload, 1) := by decide +kernel
theorem dc_L_law_1522 : decode code 1522 = .ok (.aload_n 0, 1) := by decide +kernel
theorem dc_L_law_1523 : decode code 1523 = .ok (.iload 4, 2) := by decide +kernel
theorem dc_L_law_1525 : decode code 1525 = .ok (.iconst 3, 1) := by decide +kernel
theorem dc_L_law_1526 : decode code 1526 = .ok (.iadd, 1) := by decide +kernel
theorem dc_L_law_1527 : decode code 1527 = .ok (.iaload, 1) := by decide +kernel
theorem dc_L_law_1528 : decode code 1528 = .ok (.invokevirtual 171, 3) := by decide +kernel
theorem dc_L_law_1531 : decode code 1531 = .ok (.aload_n 2, 1) := by decide +kernel
theorem dc_L_law_1532 : decode code 1532 = .ok (.invokevirtual 100, 3) := by decide +kernel
theorem dc_L_law_1535 : decode code 1535 = .ok (.iload 5, 2) := by decide +kernel
theorem dc_L_law_1537 : decode code 1537 = .ok (.if_icmp .eq 5, 3) := by decide +kernel
theorem dc_L_law_1540 : decode code 1540 = .ok (.iconst 0, 1) := by decide +kernel
theorem dc_L_law_1541 : decode code 1541 = .ok (.ireturn, 1) := by decide +kernel
theorem dc_L_law_1542 : decode code 1542 = .ok (.goto 58, 3) := by decide +kernel
theorem dc_L_law_1545 : decode code 1545 = .ok (.aload_n 1, 1) := by decide +kernel
theorem dc_L_law_1546 : decode code 1546 = .ok (.aload_n 0, 1) := by decide +kernel
theorem dc_L_law_1547 : decode code 1547 = .ok (.iload 4, 2) := by decide +kernel
theorem dc_L_law_1549 : decode code 1549 = .ok (.iconst 1, 1) := by decide +kernel
theorem dc_L_law_1550 : decode code 1550 = .ok (.iadd, 1) := by decide +kernel
theorem dc_L_law_1551 : decode code 1551 = .ok (.iaload, 1) := by decide +kernel
theorem dc_L_law_1552 : decode code 1552 = .ok (.aload_n 3, 1) := by decide +kernel
theorem dc_L_law_1553 : decode code 1553 = .ok (.invokestatic 172, 3) := by decide +kernel
theorem dc_L_law_1556 : decode code 1556 = .ok (.istore 5, 2) := by decide +kernel
theorem dc_L_law_1558 : decode code 1558 = .ok (.aload_n 2, 1) := by decide +kernel
theorem dc_L_law_1559 : decode code 1559 = .ok (.aload_n 0, 1) := by decide +kernel
theorem dc_L_law_1560 : decode code 1560 = .ok (.iload 4, 2) := by decide +kernel
theorem dc_L_law_1562 : decode code 1562 = .ok (.iconst 1, 1) := by decide +kernel
theorem dc_L_law_1563 : decode code 1563 = .ok (.iadd, 1) := by decide +kernel
theorem dc_L_law_1564 : decode code 1564 = .ok (.iaload, 1) := by decide +kernel
theorem dc_L_law_1565 : decode code 1565 = .ok (.invokevirtual 174, 3) := by decide +kernel
theorem dc_L_law_1568 : decode code 1568 = .ok (.lstore 6, 2) := by decide +kernel
theorem dc_L_law_1570 : decode code 1570 = .ok (.aload_n 2, 1) := by decide +kernel
theorem dc_L_law_1571 : decode code 1571 = .ok (.invokevirtual 100, 3) := by decide +kernel
theorem dc_L_law_1574 : decode code 1574 = .ok (.iload 5, 2) := by decide +kernel
theorem dc_L_law_1576 : decode code 1576 = .ok (.if_icmp .eq 5, 3) := by decide +kernel
theorem dc_L_law_1579 : decode code 1579 = .ok (.iconst 0, 1) := by decide +kernel
theorem dc_L_law_1580 : decode code 1580 = .ok (.ireturn, 1) := by decide +kernel
theorem dc_L_law_1581 : decode code 1581 = .ok (.iload 5, 2) := by decide +kernel
theorem dc_L_law_1583 : decode code 1583 = .ok (.ifCond .ne 14, 3) := by decide +kernel
theorem dc_L_law_1586 : decode code 1586 = .ok (.aload_n 3, 1) := by decide +kernel
theorem dc_L_law_1587 : decode code 1587 = .ok (.iconst 0, 1) := by decide +kernel
theorem dc_L_law_1588 : decode code 1588 = .ok (.laload, 1) := by decide +kernel
theorem dc_L_law_1589 : decode code 1589 = .ok (.lload 6, 2) := by decide +kernel
theorem dc_L_law_1591 : decode code 1591 = .ok (.lcmp, 1) := by decide +kernel
theorem dc_L_law_1592 : decode code 1592 = .ok (.ifCond .eq 5, 3) := by decide +kernel
theorem dc_L_law_1595 : decode code 1595 = .ok (.iconst 0, 1) := by decide +kernel
theorem dc_L_law_1596 : decode code 1596 = .ok (.ireturn, 1) := by decide +kernel
theorem dc_L_law_1597 : decode code 1597 = .ok (.goto 3, 3) := by decide +kernel
set_option maxHeartbeats 4000000 in
set_option maxRecDepth 100000 in
theorem lh_single {o : YO} {b L : Nat} {xs : Nat → Int32} (hLw : yLw o b L xs) (hR : yRm o 0 0) (i : Nat) (hi : i + 7 ≤ L) (S1 : YS) (c : Nat) (hc4 : c < 4) (lev : Nat) (hlev : lev ≤ 30) (H : yC o.l mn_M_single mb_M_single 6 (some .int) lev o.G [.ref (o.G.ad (24)), .int (xs (i + 1)), .int (xs (i + 2))] S1 (fun v S2 => dI v (gL S2 31 0) c ∧ gF S2 24 0 = nI c ∧ yInv S2)) (kk : ∀ S2 : YS, yInv S2 → yW o S2 1600 [(4, .int (nI (i))), (3, .ref (o.G.ad (31))), (2, .ref (o.G.ad (24))), (1, .ref (o.G.ad (0))), (0, .ref (b))] []) : yW o S1 1434 [(4, .int (nI (i))), (3, .ref (o.G.ad (31))), (2, .ref (o.G.ad (24))), (1, .ref (o.G.ad (0))), (0, .ref (b))] [.int (nI c)] := by
  have hB := hLw.1
  have hm := hLw.2.1
  have hL := hLw.2.2.2.2.2.2.1
  refine y_istore (pc' := 1436) (lv' := [(5, .int (nI (c))), (4, .int (nI (i))), (3, .ref (o.G.ad (31))), (2, .ref (o.G.ad (24))), (1, .ref (o.G.ad (0))), (0, .ref (b))]) hB hm dc_L_law_1434 rfl (by decide) rfl ?_
  refine y_aload_n (pc' := 1437) hB dc_L_law_1436 rfl rfl 3 rfl ?_
  refine y_aload_n (pc' := 1438) hB dc_L_law_1437 rfl rfl 5 rfl ?_
  refine y_iload (pc' := 1440) hB dc_L_law_1438 rfl 1 rfl ?_
  refine y_iconst (v := nI 1) (pc' := 1441) hB dc_L_law_1440 rfl rfl ?_
  refine n_iadd (x := i) (y := 1) (pc' := 1442) hB dc_L_law_1441 rfl ?_
  refine y_sld (j := i + 1) (pc' := 1443) hLw dc_L_law_1442 rfl (by omega) ?_
  refine y_aload_n (pc' := 1444) hB dc_L_law_1443 rfl rfl 5 rfl ?_
  refine y_iload (pc' := 1446) hB dc_L_law_1444 rfl 1 rfl ?_
  refine y_iconst (v := nI 2) (pc' := 1447) hB dc_L_law_1446 rfl rfl ?_
  refine n_iadd (x := i) (y := 2) (pc' := 1448) hB dc_L_law_1447 rfl ?_
  refine y_sld (j := i + 2) (pc' := 1449) hLw dc_L_law_1448 rfl (by omega) ?_
  refine y_gV (c := 24) (ci := 4) (As := [.int (xs (i + 1)), .int (xs (i + 2))]) (rest := []) (pc' := 1452) hB (hLw.2.2.1 _ _ (by omega) (by decide)) hR (H) mm_M_single q_804 q_805 q_806 (by decide) rfl rfl dc_L_law_1449 rfl rfl rfl (Nat.le_of_ble_eq_true rfl) (fun v S' hpost => ?_)
  obtain ⟨hd0, hcode, hI2⟩ := hpost
  obtain ⟨r, rfl, hr⟩ := hd0
  show yW o (S') 1452 [(5, .int (nI (c))), (4, .int (nI (i))), (3, .ref (o.G.ad (31))), (2, .ref (o.G.ad (24))), (1, .ref (o.G.ad (0))), (0, .ref (b))] [.int (r)]
  refine y_istore (pc' := 1454) (lv' := [(6, .int (r)), (5, .int (nI (c))), (4, .int (nI (i))), (3, .ref (o.G.ad (31))), (2, .ref (o.G.ad (24))), (1, .ref (o.G.ad (0))), (0, .ref (b))]) hB hm dc_L_law_1452 rfl (by decide) rfl ?_
  refine y_aload_n (pc' := 1455) hB dc_L_law_1454 rfl rfl 4 rfl ?_
  refine y_gV (c := 24) (ci := 4) (As := []) (rest := []) (pc' := 1458) hB (hLw.2.2.1 _ _ (by decide) (by decide)) hR (ct_M_thrown o.l o.G S') mm_M_thrown q_664 q_665 q_666 (by decide) rfl rfl dc_L_law_1455 rfl rfl rfl (Nat.le_of_ble_eq_true rfl) (fun v S' hpost => ?_)
  obtain ⟨rfl, hSS⟩ := hpost
  subst hSS
  show yW o (S') 1458 [(6, .int (r)), (5, .int (nI (c))), (4, .int (nI (i))), (3, .ref (o.G.ad (31))), (2, .ref (o.G.ad (24))), (1, .ref (o.G.ad (0))), (0, .ref (b))] [.int (gF S' 24 0)]
  refine y_topi (y := nI (c)) (hcode) ?_
  refine y_iload (pc' := 1460) hB dc_L_law_1458 rfl 1 rfl ?_
  refine n_icmp_eq (pc' := 1463) (tg := 1465) hB dc_L_law_1460 rfl rfl (by omega) (by omega) (fun b2 => ?_) (fun b2 => ?_)
  · refine y_iload (pc' := 1467) hB dc_L_law_1465 rfl 1 rfl ?_
    refine n_if_ne (pc' := 1470) (tg := 1482) hB dc_L_law_1467 rfl rfl (by omega) (fun b3 => ?_) (fun b3 => ?_)
    · refine y_goto (tg := 1600) hB dc_L_law_1482 rfl ?_
      refine y_sub [2, 3, 4, 5, 6] rfl ?_
      exact kk _ hI2
    · have e0 : c = 0 := by omega
      refine y_aload_n (pc' := 1471) hB dc_L_law_1470 rfl rfl 3 rfl ?_
      refine y_iconst (v := nI 0) (pc' := 1472) hB dc_L_law_1471 rfl rfl ?_
      refine y_lald (c := 31) (n := 1) (j := 0) (pc' := 1473) hB dc_L_law_1472 rfl (by decide) rfl (by omega) (by decide) ?_
      refine y_iload (pc' := 1475) hB dc_L_law_1473 rfl 0 rfl ?_
      refine y_i2l (v := Int32.toInt64 (r)) (pc' := 1476) hB dc_L_law_1475 rfl rfl ?_
      refine y_lcmp (pc' := 1477) hB dc_L_law_1476 rfl ?_
      refine y_if_eq (x := lg_cmp (gL (S') (31) (0)) (Int32.toInt64 (r))) (pc' := 1480) (tg := 1482) hB dc_L_law_1477 rfl rfl (fun b4 => ?_) (fun b4 => ?_)
      · refine y_goto (tg := 1600) hB dc_L_law_1482 rfl ?_
        refine y_sub [2, 3, 4, 5, 6] rfl ?_
        exact kk _ hI2
      · exact absurd (lg_0.mpr (hr e0)) b4
  · omega
set_option maxHeartbeats 4000000 in
set_option maxRecDepth 100000 in
theorem lg_single {o : YO} {b L : Nat} {xs : Nat → Int32} (hLw : yLw o b L xs) (hR : yRm o 1 6) (i : Nat) (hi : i + 7 ≤ L) (S : YS) (hI : yInv S) (kk : ∀ S2 : YS, yInv S2 → yW (yat o (o.cells + 1) (o.slots + 6)) S2 1600 [(4, .int (nI (i))), (3, .ref (o.G.ad (31))), (2, .ref (o.G.ad (24))), (1, .ref (o.G.ad (0))), (0, .ref (b))] []) : yW o S 1417 [(4, .int (nI (i))), (3, .ref (o.G.ad (31))), (2, .ref (o.G.ad (24))), (1, .ref (o.G.ad (0))), (0, .ref (b))] [] := by
  have hB := hLw.1
  have hm := hLw.2.1
  have hL := hLw.2.2.2.2.2.2.1
  refine y_aload_n (pc' := 1418) hB dc_L_law_1417 rfl rfl 3 rfl ?_
  refine y_aload_n (pc' := 1419) hB dc_L_law_1418 rfl rfl 4 rfl ?_
  refine y_iload (pc' := 1421) hB dc_L_law_1419 rfl 0 rfl ?_
  refine y_iconst (v := nI 1) (pc' := 1422) hB dc_L_law_1421 rfl rfl ?_
  refine n_iadd (x := i) (y := 1) (pc' := 1423) hB dc_L_law_1422 rfl ?_
  refine y_sld (j := i + 1) (pc' := 1424) hLw dc_L_law_1423 rfl (by omega) ?_
  refine y_aload_n (pc' := 1425) hB dc_L_law_1424 rfl rfl 4 rfl ?_
  refine y_iload (pc' := 1427) hB dc_L_law_1425 rfl 0 rfl ?_
  refine y_iconst (v := nI 2) (pc' := 1428) hB dc_L_law_1427 rfl rfl ?_
  refine n_iadd (x := i) (y := 2) (pc' := 1429) hB dc_L_law_1428 rfl ?_
  refine y_sld (j := i + 2) (pc' := 1430) hLw dc_L_law_1429 rfl (by omega) ?_
  refine y_aload_n (pc' := 1431) hB dc_L_law_1430 rfl rfl 1 rfl ?_
  obtain ⟨c, P, hc4, hH, hM⟩ := duo_single o.l hLw.2.2.2.2.2.2.2 o.G S hI (xs (i + 1)) (xs (i + 2))
  refine y_hS (k := 4) (As := [.ref (o.G.ad (0)), .int (xs (i + 1)), .int (xs (i + 2)), .ref (o.G.ad (31))]) (rest := []) (pc' := 1434) hB (hLw.2.2.1 _ _ (by omega) (by decide)) hR hH q_606 q_0 ⟨by decide, by decide⟩ (by decide +kernel) q_604 q_605 dc_L_law_1431 rfl rfl rfl (Nat.le_of_ble_eq_true rfl) (fun v S1 hpost => ?_)
  obtain ⟨rfl, hP⟩ := hpost
  obtain ⟨lev, hlev, hC⟩ := hM S1 hP
  exact lh_single (o := (yat o (o.cells + 1) (o.slots + 6))) hLw ⟨hR.1, hR.2⟩ i hi S1 c hc4 lev hlev hC kk
set_option maxHeartbeats 4000000 in
set_option maxRecDepth 100000 in
theorem lh_front {o : YO} {b L : Nat} {xs : Nat → Int32} (hLw : yLw o b L xs) (hR : yRm o 0 0) (i : Nat) (hi : i + 7 ≤ L) (S1 : YS) (c : Nat) (hc4 : c < 4) (lev : Nat) (hlev : lev ≤ 30) (H : yC o.l mn_M_front mb_M_front 8 none lev o.G [.ref (o.G.ad (24)), .int (xs (i + 1)), .int (xs (i + 2)), .int (xs (i + 3))] S1 (fun v S2 => dV v (gL S2 31 0) c ∧ gF S2 24 0 = nI c ∧ yInv S2)) (kk : ∀ S2 : YS, yInv S2 → yW o S2 1600 [(4, .int (nI (i))), (3, .ref (o.G.ad (31))), (2, .ref (o.G.ad (24))), (1, .ref (o.G.ad (0))), (0, .ref (b))] []) : yW o S1 1507 [(4, .int (nI (i))), (3, .ref (o.G.ad (31))), (2, .ref (o.G.ad (24))), (1, .ref (o.G.ad (0))), (0, .ref (b))] [.int (nI c)] := by
  have hB := hLw.1
  have hm := hLw.2.1
  have hL := hLw.2.2.2.2.2.2.1
  refine y_istore (pc' := 1509) (lv' := [(5, .int (nI (c))), (4, .int (nI (i))), (3, .ref (o.G.ad (31))), (2, .ref (o.G.ad (24))), (1, .ref (o.G.ad (0))), (0, .ref (b))]) hB hm dc_L_law_1507 rfl (by decide) rfl ?_
  refine y_aload_n (pc' := 1510) hB dc_L_law_1509 rfl rfl 3 rfl ?_
  refine y_aload_n (pc' := 1511) hB dc_L_law_1510 rfl rfl 5 rfl ?_
  refine y_iload (pc' := 1513) hB dc_L_law_1511 rfl 1 rfl ?_
  refine y_iconst (v := nI 1) (pc' := 1514) hB dc_L_law_1513 rfl rfl ?_
  refine n_iadd (x := i) (y := 1) (pc' := 1515) hB dc_L_law_1514 rfl ?_
  refine y_sld (j := i + 1) (pc' := 1516) hLw dc_L_law_1515 rfl (by omega) ?_
  refine y_aload_n (pc' := 1517) hB dc_L_law_1516 rfl rfl 5 rfl ?_
  refine y_iload (pc' := 1519) hB dc_L_law_1517 rfl 1 rfl ?_
  refine y_iconst (v := nI 2) (pc' := 1520) hB dc_L_law_1519 rfl rfl ?_
  refine n_iadd (x := i) (y := 2) (pc' := 1521) hB dc_L_law_1520 rfl ?_
  refine y_sld (j := i + 2) (pc' := 1522) hLw dc_L_law_1521 rfl (by omega) ?_
  refine y_aload_n (pc' := 1523) hB dc_L_law_1522 rfl rfl 5 rfl ?_
  refine y_iload (pc' := 1525) hB dc_L_law_1523 rfl 1 rfl ?_
  refine y_iconst (v := nI 3) (pc' := 1526) hB dc_L_law_1525 rfl rfl ?_
  refine n_iadd (x := i) (y := 3) (pc' := 1527) hB dc_L_law_1526 rfl ?_
  refine y_sld (j := i + 3) (pc' := 1528) hLw dc_L_law_1527 rfl (by omega) ?_
  refine y_gV (c := 24) (ci := 4) (As := [.int (xs (i + 1)), .int (xs (i + 2)), .int (xs (i + 3))]) (rest := []) (pc' := 1531) hB (hLw.2.2.1 _ _ (by omega) (by decide)) hR (H) mm_M_front q_808 q_809 q_810 (by decide) rfl rfl dc_L_law_1528 rfl rfl rfl (Nat.le_of_ble_eq_true rfl) (fun v S' hpost => ?_)
  obtain ⟨hd0, hcode, hI2⟩ := hpost
  obtain rfl : v = none := hd0
  show yW o (S') 1531 [(5, .int (nI (c))), (4, .int (nI (i))), (3, .ref (o.G.ad (31))), (2, .ref (o.G.ad (24))), (1, .ref (o.G.ad (0))), (0, .ref (b))] []
  refine y_aload_n (pc' := 1532) hB dc_L_law_1531 rfl rfl 3 rfl ?_
  refine y_gV (c := 24) (ci := 4) (As := []) (rest := []) (pc' := 1535) hB (hLw.2.2.1 _ _ (by decide) (by decide)) hR (ct_M_thrown o.l o.G S') mm_M_thrown q_664 q_665 q_666 (by decide) rfl rfl dc_L_law_1532 rfl rfl rfl (Nat.le_of_ble_eq_true rfl) (fun v S' hpost => ?_)
  obtain ⟨rfl, hSS⟩ := hpost
  subst hSS
  show yW o (S') 1535 [(5, .int (nI (c))), (4, .int (nI (i))), (3, .ref (o.G.ad (31))), (2, .ref (o.G.ad (24))), (1, .ref (o.G.ad (0))), (0, .ref (b))] [.int (gF S' 24 0)]
  refine y_topi (y := nI (c)) (hcode) ?_
  refine y_iload (pc' := 1537) hB dc_L_law_1535 rfl 0 rfl ?_
  refine n_icmp_eq (pc' := 1540) (tg := 1542) hB dc_L_law_1537 rfl rfl (by omega) (by omega) (fun b2 => ?_) (fun b2 => ?_)
  · refine y_goto (tg := 1600) hB dc_L_law_1542 rfl ?_
    refine y_sub [1, 2, 3, 4, 5] rfl ?_
    exact kk _ hI2
  · omega
set_option maxHeartbeats 4000000 in
set_option maxRecDepth 100000 in
theorem lg_front {o : YO} {b L : Nat} {xs : Nat → Int32} (hLw : yLw o b L xs) (hR : yRm o 1 6) (i : Nat) (hi : i + 7 ≤ L) (S : YS) (hI : yInv S) (kk : ∀ S2 : YS, yInv S2 → yW (yat o (o.cells + 1) (o.slots + 6)) S2 1600 [(4, .int (nI (i))), (3, .ref (o.G.ad (31))), (2, .ref (o.G.ad (24))), (1, .ref (o.G.ad (0))), (0, .ref (b))] []) : yW o S 1485 [(4, .int (nI (i))), (3, .ref (o.G.ad (31))), (2, .ref (o.G.ad (24))), (1, .ref (o.G.ad (0))), (0, .ref (b))] [] := by
  have hB := hLw.1
  have hm := hLw.2.1
  have hL := hLw.2.2.2.2.2.2.1
  refine y_aload_n (pc' := 1486) hB dc_L_law_1485 rfl rfl 3 rfl ?_
  refine y_aload_n (pc' := 1487) hB dc_L_law_1486 rfl rfl 4 rfl ?_
  refine y_iload (pc' := 1489) hB dc_L_law_1487 rfl 0 rfl ?_
  refine y_iconst (v := nI 1) (pc' := 1490) hB dc_L_law_1489 rfl rfl ?_
  refine n_iadd (x := i) (y := 1) (pc' := 1491) hB dc_L_law_1490 rfl ?_
  refine y_sld (j := i + 1) (pc' := 1492) hLw dc_L_law_1491 rfl (by omega) ?_
  refine y_aload_n (pc' := 1493) hB dc_L_law_1492 rfl rfl 4 rfl ?_
  refine y_iload (pc' := 1495) hB dc_L_law_1493 rfl 0 rfl ?_
  refine y_iconst (v := nI 2) (pc' := 1496) hB dc_L_law_1495 rfl rfl ?_
  refine n_iadd (x := i) (y := 2) (pc' := 1497) hB dc_L_law_1496 rfl ?_
  refine y_sld (j := i + 2) (pc' := 1498) hLw dc_L_law_1497 rfl (by omega) ?_
  refine y_aload_n (pc' := 1499) hB dc_L_law_1498 rfl rfl 4 rfl ?_
  refine y_iload (pc' := 1501) hB dc_L_law_1499 rfl 0 rfl ?_
  refine y_iconst (v := nI 3) (pc' := 1502) hB dc_L_law_1501 rfl rfl ?_
  refine n_iadd (x := i) (y := 3) (pc' := 1503) hB dc_L_law_1502 rfl ?_
  refine y_sld (j := i + 3) (pc' := 1504) hLw dc_L_law_1503 rfl (by omega) ?_
  obtain ⟨c, P, hc4, hH, hM⟩ := duo_front o.l hLw.2.2.2.2.2.2.2 o.G S hI (xs (i + 1)) (xs (i + 2)) (xs (i + 3))
  refine y_hS (k := 4) (As := [.ref (o.G.ad (0)), .int (xs (i + 1)), .int (xs (i + 2)), .int (xs (i + 3))]) (rest := []) (pc' := 1507) hB (hLw.2.2.1 _ _ (by omega) (by decide)) hR hH q_614 q_0 ⟨by decide, by decide⟩ (by decide +kernel) q_612 q_613 dc_L_law_1504 rfl rfl rfl (Nat.le_of_ble_eq_true rfl) (fun v S1 hpost => ?_)
  obtain ⟨rfl, hP⟩ := hpost
  obtain ⟨lev, hlev, hC⟩ := hM S1 hP
  exact lh_front (o := (yat o (o.cells + 1) (o.slots + 6))) hLw ⟨hR.1, hR.2⟩ i hi S1 c hc4 lev hlev hC kk
set_option maxHeartbeats 4000000 in
set_option maxRecDepth 100000 in
theorem lh_mark {o : YO} {b L : Nat} {xs : Nat → Int32} (hLw : yLw o b L xs) (hR : yRm o 0 0) (i : Nat) (hi : i + 7 ≤ L) (S1 : YS) (c : Nat) (hc4 : c < 4) (lev : Nat) (hlev : lev ≤ 30) (H : yC o.l mn_M_mark mb_M_mark 5 (some .long) lev o.G [.ref (o.G.ad (24)), .int (xs (i + 1))] S1 (fun v S2 => dJ v (gL S2 31 0) c ∧ gF S2 24 0 = nI c ∧ yInv S2)) (kk : ∀ S2 : YS, yInv S2 → yW o S2 1600 [(4, .int (nI (i))), (3, .ref (o.G.ad (31))), (2, .ref (o.G.ad (24))), (1, .ref (o.G.ad (0))), (0, .ref (b))] []) : yW o S1 1556 [(4, .int (nI (i))), (3, .ref (o.G.ad (31))), (2, .ref (o.G.ad (24))), (1, .ref (o.G.ad (0))), (0, .ref (b))] [.int (nI c)] := by
  have hB := hLw.1
  have hm := hLw.2.1
  have hL := hLw.2.2.2.2.2.2.1
  refine y_istore (pc' := 1558) (lv' := [(5, .int (nI (c))), (4, .int (nI (i))), (3, .ref (o.G.ad (31))), (2, .ref (o.G.ad (24))), (1, .ref (o.G.ad (0))), (0, .ref (b))]) hB hm dc_L_law_1556 rfl (by decide) rfl ?_
  refine y_aload_n (pc' := 1559) hB dc_L_law_1558 rfl rfl 3 rfl ?_
  refine y_aload_n (pc' := 1560) hB dc_L_law_1559 rfl rfl 5 rfl ?_
  refine y_iload (pc' := 1562) hB dc_L_law_1560 rfl 1 rfl ?_
  refine y_iconst (v := nI 1) (pc' := 1563) hB dc_L_law_1562 rfl rfl ?_
  refine n_iadd (x := i) (y := 1) (pc' := 1564) hB dc_L_law_1563 rfl ?_
  refine y_sld (j := i + 1) (pc' := 1565) hLw dc_L_law_1564 rfl (by omega) ?_
  refine y_gV (c := 24) (ci := 4) (As := [.int (xs (i + 1))]) (rest := []) (pc' := 1568) hB (hLw.2.2.1 _ _ (by omega) (by decide)) hR (H) mm_M_mark q_816 q_817 q_818 (by decide) rfl rfl dc_L_law_1565 rfl rfl rfl (Nat.le_of_ble_eq_true rfl) (fun v S' hpost => ?_)
  obtain ⟨hd0, hcode, hI2⟩ := hpost
  obtain ⟨r, rfl, hr⟩ := hd0
  show yW o (S') 1568 [(5, .int (nI (c))), (4, .int (nI (i))), (3, .ref (o.G.ad (31))), (2, .ref (o.G.ad (24))), (1, .ref (o.G.ad (0))), (0, .ref (b))] [.long (r)]
  refine y_lstore (pc' := 1570) (lv' := [(6, .long (r)), (5, .int (nI (c))), (4, .int (nI (i))), (3, .ref (o.G.ad (31))), (2, .ref (o.G.ad (24))), (1, .ref (o.G.ad (0))), (0, .ref (b))]) hB hm dc_L_law_1568 rfl (by decide) rfl ?_
  refine y_aload_n (pc' := 1571) hB dc_L_law_1570 rfl rfl 4 rfl ?_
  refine y_gV (c := 24) (ci := 4) (As := []) (rest := []) (pc' := 1574) hB (hLw.2.2.1 _ _ (by decide) (by decide)) hR (ct_M_thrown o.l o.G S') mm_M_thrown q_664 q_665 q_666 (by decide) rfl rfl dc_L_law_1571 rfl rfl rfl (Nat.le_of_ble_eq_true rfl) (fun v S' hpost => ?_)
  obtain ⟨rfl, hSS⟩ := hpost
  subst hSS
  show yW o (S') 1574 [(6, .long (r)), (5, .int (nI (c))), (4, .int (nI (i))), (3, .ref (o.G.ad (31))), (2, .ref (o.G.ad (24))), (1, .ref (o.G.ad (0))), (0, .ref (b))] [.int (gF S' 24 0)]
  refine y_topi (y := nI (c)) (hcode) ?_
  refine y_iload (pc' := 1576) hB dc_L_law_1574 rfl 1 rfl ?_
  refine n_icmp_eq (pc' := 1579) (tg := 1581) hB dc_L_law_1576 rfl rfl (by omega) (by omega) (fun b2 => ?_) (fun b2 => ?_)
  · refine y_iload (pc' := 1583) hB dc_L_law_1581 rfl 1 rfl ?_
    refine n_if_ne (pc' := 1586) (tg := 1597) hB dc_L_law_1583 rfl rfl (by omega) (fun b3 => ?_) (fun b3 => ?_)
    · refine y_goto (tg := 1600) hB dc_L_law_1597 rfl ?_
      refine y_sub [2, 3, 4, 5, 6] rfl ?_
      exact kk _ hI2
    · have e0 : c = 0 := by omega
      refine y_aload_n (pc' := 1587) hB dc_L_law_1586 rfl rfl 3 rfl ?_
      refine y_iconst (v := nI 0) (pc' := 1588) hB dc_L_law_1587 rfl rfl ?_
      refine y_lald (c := 31) (n := 1) (j := 0) (pc' := 1589) hB dc_L_law_1588 rfl (by decide) rfl (by omega) (by decide) ?_
      refine y_lload (pc' := 1591) hB dc_L_law_1589 rfl 0 rfl ?_
      refine y_lcmp (pc' := 1592) hB dc_L_law_1591 rfl ?_
      refine y_if_eq (x := lg_cmp (gL (S') (31) (0)) (r)) (pc' := 1595) (tg := 1597) hB dc_L_law_1592 rfl rfl (fun b4 => ?_) (fun b4 => ?_)
      · refine y_goto (tg := 1600) hB dc_L_law_1597 rfl ?_
        refine y_sub [2, 3, 4, 5, 6] rfl ?_
        exact kk _ hI2
      · exact absurd (lg_0.mpr (hr e0)) b4
  · omega
set_option maxHeartbeats 4000000 in
set_option maxRecDepth 100000 in
theorem lg_mark {o : YO} {b L : Nat} {xs : Nat → Int32} (hLw : yLw o b L xs) (hR : yRm o 1 6) (i : Nat) (hi : i + 7 ≤ L) (S : YS) (hI : yInv S) (kk : ∀ S2 : YS, yInv S2 → yW (yat o (o.cells + 1) (o.slots + 6)) S2 1600 [(4, .int (nI (i))), (3, .ref (o.G.ad (31))), (2, .ref (o.G.ad (24))), (1, .ref (o.G.ad (0))), (0, .ref (b))] []) : yW o S 1545 [(4, .int (nI (i))), (3, .ref (o.G.ad (31))), (2, .ref (o.G.ad (24))), (1, .ref (o.G.ad (0))), (0, .ref (b))] [] := by
  have hB := hLw.1
  have hm := hLw.2.1
  have hL := hLw.2.2.2.2.2.2.1
  refine y_aload_n (pc' := 1546) hB dc_L_law_1545 rfl rfl 3 rfl ?_
  refine y_aload_n (pc' := 1547) hB dc_L_law_1546 rfl rfl 4 rfl ?_
  refine y_iload (pc' := 1549) hB dc_L_law_1547 rfl 0 rfl ?_
  refine y_iconst (v := nI 1) (pc' := 1550) hB dc_L_law_1549 rfl rfl ?_
  refine n_iadd (x := i) (y := 1) (pc' := 1551) hB dc_L_law_1550 rfl ?_
  refine y_sld (j := i + 1) (pc' := 1552) hLw dc_L_law_1551 rfl (by omega) ?_
  refine y_aload_n (pc' := 1553) hB dc_L_law_1552 rfl rfl 1 rfl ?_
  obtain ⟨c, P, hc4, hH, hM⟩ := duo_mark o.l hLw.2.2.2.2.2.2.2 o.G S hI (xs (i + 1))
  refine y_hS (k := 3) (As := [.ref (o.G.ad (0)), .int (xs (i + 1)), .ref (o.G.ad (31))]) (rest := []) (pc' := 1556) hB (hLw.2.2.1 _ _ (by omega) (by decide)) hR hH q_626 q_0 ⟨by decide, by decide⟩ (by decide +kernel) q_624 q_625 dc_L_law_1553 rfl rfl rfl (Nat.le_of_ble_eq_true rfl) (fun v S1 hpost => ?_)
  obtain ⟨rfl, hP⟩ := hpost
  obtain ⟨lev, hlev, hC⟩ := hM S1 hP
  exact lh_mark (o := (yat o (o.cells + 1) (o.slots + 6))) hLw ⟨hR.1, hR.2⟩ i hi S1 c hc4 lev hlev hC kk
