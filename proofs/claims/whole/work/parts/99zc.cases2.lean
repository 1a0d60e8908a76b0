section S
variable {g : aG} {d : Nat} {I : Nat → Nat → Int32} {J : Nat → Nat → Int64} {n w : Nat} {Q : aO → aS → Prop}
theorem lw_20 {x : gX} {q : Nat} {v5 v6 v7 : Value} (hN : aNx g) (hL : 10 * q + 10 ≤ gL g) (hL2 : gL g ≤ 5120) (hx : gOk x) (hc : cI x I) (hm : mI x I) (hn : n + 1 ≤ 600000 ∧ w + 6 ≤ 7000000) (hK : ∀ (x' : gX) (I' : Nat → Nat → Int32) (J' : Nat → Nat → Int64) (n' w' : Nat) (v5 v6 v7 : Value) (ll : List (Nat × Int64)), gOk x' → cI x' I' → mI x' I' → n' ≤ n + 1 → w' ≤ w + 6 → Rn g (d + 40) mL_law_ 2692 [.ref 0, .ref 1, .ref 534, .ref 560, .int (nI (10 * q)), v5, v6, v7] ll [] (Z I' J' n' w') Q) : Rn g (d + 40) mL_law_ 1467 [.ref 0, .ref 1, .ref 534, .ref 560, .int (nI (10 * q)), v5, v6, v7] [] [] (Z I J n w) Q := by
  obtain ⟨x1, A1, hg1, hA, hC, hM⟩ := pr_fits (x := gx g (10 * q + 1)) hx
  refine s_aload_n (pc := 1467) (i := 1) dL_law__1467 rfl rfl ?_
  refine s_aload_n (pc := 1468) (i := 0) dL_law__1468 rfl rfl ?_
  refine s_iload (pc := 1469) (i := 4) dL_law__1469 rfl ?_
  refine m_ic (pc := 1471) (v := 1) dL_law__1471 rfl ?_
  refine s_iadd (pc := 1472) dL_law__1472 ?_
  refine m_nm (v' := nI ((10 * q) + 1)) (nI_add (10 * q) 1) ?_
  refine s_sld (pc := 1473) dL_law__1473 (vp_in_nI (n := (10 * q) + 1) (by omega) (by omega)) ?_
  refine m_nm (v' := gx g (10 * q + 1)) (rdX (by omega)) ?_
  refine s_aload_n (pc := 1474) (i := 3) dL_law__1474 rfl rfl ?_
  refine m_h3 (y' := mL_fits) (pc := 1475) dL_law__1475 ml_L_196 ok_L_fits sa_L_fits rfl rfl (c_L_fits hN (hC g (d + 30) I J n w _ hc hn (fun v1 I1 e1 hc1 f1 => ⟨I1, J, n, w, rfl, kt_s ?_⟩) (fun k1 I1 e1 hc1 f1 => ?_)))
  · refine s_istore (pc := 1478) (i := 5) dL_law__1478 (Nat.le_of_ble_eq_true rfl) ?_
    dsimp only [List.set, List.filter]
    refine s_aload_n (pc := 1480) (i := 2) dL_law__1480 rfl rfl ?_
    refine s_aload_n (pc := 1481) (i := 0) dL_law__1481 rfl rfl ?_
    refine s_iload (pc := 1482) (i := 4) dL_law__1482 rfl ?_
    refine m_ic (pc := 1484) (v := 1) dL_law__1484 rfl ?_
    refine s_iadd (pc := 1485) dL_law__1485 ?_
    refine m_nm (v' := nI ((10 * q) + 1)) (nI_add (10 * q) 1) ?_
    refine s_sld (pc := 1486) dL_law__1486 (vp_in_nI (n := (10 * q) + 1) (by omega) (by omega)) ?_
    refine m_nm (v' := gx g (10 * q + 1)) (rdX (by omega)) ?_
    refine m_v1 (pc := 1487) dL_law__1487 lk_L_198 ok_X12_fits (rcO o_534 (by decide) rfl) rfl rfl (hM g (d + 31) I1 (upJ J 560 0 v1.toInt64) n w _ (mI_c hm f1) (fun v2 I2 e2 hm2 f2 h0 => kt_s ?_) (fun k2 I2 e2 _ _ _ => (by rw [e1] at e2; cases e2)))
    · have ev : v1 = v2 := by rw [e1] at e2; cases e2; rfl
      subst ev
      refine s_istore (pc := 1490) (i := 6) dL_law__1490 (Nat.le_of_ble_eq_true rfl) ?_
      dsimp only [List.set, List.filter]
      refine s_aload_n (pc := 1492) (i := 2) dL_law__1492 rfl rfl ?_
      refine m_v0 (pc := 1493) dL_law__1493 lk_L_134 ok_X12_thrown (rcO o_534 (by decide) rfl) rfl rfl (c_X12_thrown h0 (kt_s ?_))
      · refine s_iload (pc := 1496) (i := 5) dL_law__1496 rfl ?_
        refine s_iceq (pc := 1498) (tgt := 1503) dL_law__1498 rfl (fun h1498 => ?_) (fun h1498 => absurd h1498 (by decide))
        refine s_iload (pc := 1503) (i := 5) dL_law__1503 rfl ?_
        refine s_ifne (pc := 1505) (tgt := 1520) dL_law__1505 rfl (fun h1505 => absurd h1505 (by decide)) (fun h1505 => ?_)
        refine s_aload_n (pc := 1508) (i := 3) dL_law__1508 rfl rfl ?_
        refine m_ic (pc := 1509) (v := 0) dL_law__1509 rfl ?_
        refine m_la (pc := 1510) dL_law__1510 a_560 (vp_in_nI (n := 0) (by omega) (by decide)) ?_
        refine m_nl (v' := v1.toInt64) (uJ_s) ?_
        refine s_iload (pc := 1511) (i := 6) dL_law__1511 rfl ?_
        refine s_i2l (pc := 1513) dL_law__1513 ?_
        refine s_lcmp (pc := 1514) dL_law__1514 ?_
        refine m_nm (v' := 0) (lg_cc) ?_
        refine s_ifeq (pc := 1515) (tgt := 1520) dL_law__1515 rfl (fun h1515 => ?_) (fun h1515 => absurd h1515 (by decide))
        refine s_goto (pc := 1520) (tgt := 2692) dL_law__1520 rfl ?_
        exact hK x1 I2 _ n w _ _ _ _ hg1 (cI_m hg1 hc1 f2) hm2 (by omega) (by omega)
  · obtain ⟨c1, ec1, nc1⟩ := hA k1 e1
    refine ⟨c1, ec1, kt_s ?_⟩
    refine s_istore (pc := 1478) (i := 5) dL_law__1478 (Nat.le_of_ble_eq_true rfl) ?_
    dsimp only [List.set, List.filter]
    refine s_aload_n (pc := 1480) (i := 2) dL_law__1480 rfl rfl ?_
    refine s_aload_n (pc := 1481) (i := 0) dL_law__1481 rfl rfl ?_
    refine s_iload (pc := 1482) (i := 4) dL_law__1482 rfl ?_
    refine m_ic (pc := 1484) (v := 1) dL_law__1484 rfl ?_
    refine s_iadd (pc := 1485) dL_law__1485 ?_
    refine m_nm (v' := nI ((10 * q) + 1)) (nI_add (10 * q) 1) ?_
    refine s_sld (pc := 1486) dL_law__1486 (vp_in_nI (n := (10 * q) + 1) (by omega) (by omega)) ?_
    refine m_nm (v' := gx g (10 * q + 1)) (rdX (by omega)) ?_
    refine m_v1 (pc := 1487) dL_law__1487 lk_L_198 ok_X12_fits (rcO o_534 (by decide) rfl) rfl rfl (hM g (d + 31) I1 J (n + 1) (w + 6) _ (mI_c hm f1) (fun v2 I2 e2 _ _ _ => (by rw [e1] at e2; cases e2)) (fun k2 I2 e2 hm2 f2 h0 => kt_s ?_))
    · have ek : k1 = k2 := by rw [e1] at e2; cases e2; rfl
      subst ek
      have h0 : I2 534 0 = c1 := h0.trans (by rw [ec1]; rfl)
      refine s_istore (pc := 1490) (i := 6) dL_law__1490 (Nat.le_of_ble_eq_true rfl) ?_
      dsimp only [List.set, List.filter]
      refine s_aload_n (pc := 1492) (i := 2) dL_law__1492 rfl rfl ?_
      refine m_v0 (pc := 1493) dL_law__1493 lk_L_134 ok_X12_thrown (rcO o_534 (by decide) rfl) rfl rfl (c_X12_thrown h0 (kt_s ?_))
      refine s_iload (pc := 1496) (i := 5) dL_law__1496 rfl ?_
      refine s_iceq (pc := 1498) (tgt := 1503) dL_law__1498 rfl (fun h1498 => ?_) (fun h1498 => absurd (rfl) h1498)
      refine s_iload (pc := 1503) (i := 5) dL_law__1503 rfl ?_
      refine s_ifne (pc := 1505) (tgt := 1520) dL_law__1505 rfl (fun h1505 => ?_) (fun h1505 => absurd h1505 (nc1))
      refine s_goto (pc := 1520) (tgt := 2692) dL_law__1520 rfl ?_
      exact hK x1 I2 J (n + 1) (w + 6) _ _ _ _ hg1 (cI_m hg1 hc1 f2) hm2 (by omega) (by omega)
theorem lw_21 {x : gX} {q : Nat} {v5 v6 v7 : Value} (hN : aNx g) (hL : 10 * q + 10 ≤ gL g) (hL2 : gL g ≤ 5120) (hx : gOk x) (hc : cI x I) (hm : mI x I) (hn : n + 1 ≤ 600000 ∧ w + 6 ≤ 7000000) (hK : ∀ (x' : gX) (I' : Nat → Nat → Int32) (J' : Nat → Nat → Int64) (n' w' : Nat) (v5 v6 v7 : Value) (ll : List (Nat × Int64)), gOk x' → cI x' I' → mI x' I' → n' ≤ n + 1 → w' ≤ w + 6 → Rn g (d + 40) mL_law_ 2692 [.ref 0, .ref 1, .ref 534, .ref 560, .int (nI (10 * q)), v5, v6, v7] ll [] (Z I' J' n' w') Q) : Rn g (d + 40) mL_law_ 1523 [.ref 0, .ref 1, .ref 534, .ref 560, .int (nI (10 * q)), v5, v6, v7] [] [] (Z I J n w) Q := by
  obtain ⟨x1, A1, hg1, hA, hC, hM⟩ := pr_look (x := gx g (10 * q + 1)) hx
  refine s_aload_n (pc := 1523) (i := 1) dL_law__1523 rfl rfl ?_
  refine s_aload_n (pc := 1524) (i := 0) dL_law__1524 rfl rfl ?_
  refine s_iload (pc := 1525) (i := 4) dL_law__1525 rfl ?_
  refine m_ic (pc := 1527) (v := 1) dL_law__1527 rfl ?_
  refine s_iadd (pc := 1528) dL_law__1528 ?_
  refine m_nm (v' := nI ((10 * q) + 1)) (nI_add (10 * q) 1) ?_
  refine s_sld (pc := 1529) dL_law__1529 (vp_in_nI (n := (10 * q) + 1) (by omega) (by omega)) ?_
  refine m_nm (v' := gx g (10 * q + 1)) (rdX (by omega)) ?_
  refine s_aload_n (pc := 1530) (i := 3) dL_law__1530 rfl rfl ?_
  refine m_h3 (y' := mL_look) (pc := 1531) dL_law__1531 ml_L_199 ok_L_look sa_L_look rfl rfl (c_L_look hN (hC g (d + 30) I J n w _ hc hn (fun v1 I1 e1 hc1 f1 => ⟨I1, J, n, w, rfl, kt_s ?_⟩) (fun k1 I1 e1 hc1 f1 => ?_)))
  · refine s_istore (pc := 1534) (i := 5) dL_law__1534 (Nat.le_of_ble_eq_true rfl) ?_
    dsimp only [List.set, List.filter]
    refine s_aload_n (pc := 1536) (i := 2) dL_law__1536 rfl rfl ?_
    refine s_aload_n (pc := 1537) (i := 0) dL_law__1537 rfl rfl ?_
    refine s_iload (pc := 1538) (i := 4) dL_law__1538 rfl ?_
    refine m_ic (pc := 1540) (v := 1) dL_law__1540 rfl ?_
    refine s_iadd (pc := 1541) dL_law__1541 ?_
    refine m_nm (v' := nI ((10 * q) + 1)) (nI_add (10 * q) 1) ?_
    refine s_sld (pc := 1542) dL_law__1542 (vp_in_nI (n := (10 * q) + 1) (by omega) (by omega)) ?_
    refine m_nm (v' := gx g (10 * q + 1)) (rdX (by omega)) ?_
    refine m_v1 (pc := 1543) dL_law__1543 lk_L_201 ok_X12_look (rcO o_534 (by decide) rfl) rfl rfl (hM g (d + 30) I1 (upJ J 560 0 v1.toInt64) n w _ (mI_c hm f1) (fun v2 I2 e2 hm2 f2 h0 => kt_s ?_) (fun k2 I2 e2 _ _ _ => (by rw [e1] at e2; cases e2)))
    · have ev : v1 = v2 := by rw [e1] at e2; cases e2; rfl
      subst ev
      refine s_istore (pc := 1546) (i := 6) dL_law__1546 (Nat.le_of_ble_eq_true rfl) ?_
      dsimp only [List.set, List.filter]
      refine s_aload_n (pc := 1548) (i := 2) dL_law__1548 rfl rfl ?_
      refine m_v0 (pc := 1549) dL_law__1549 lk_L_134 ok_X12_thrown (rcO o_534 (by decide) rfl) rfl rfl (c_X12_thrown h0 (kt_s ?_))
      · refine s_iload (pc := 1552) (i := 5) dL_law__1552 rfl ?_
        refine s_iceq (pc := 1554) (tgt := 1559) dL_law__1554 rfl (fun h1554 => ?_) (fun h1554 => absurd h1554 (by decide))
        refine s_iload (pc := 1559) (i := 5) dL_law__1559 rfl ?_
        refine s_ifne (pc := 1561) (tgt := 1576) dL_law__1561 rfl (fun h1561 => absurd h1561 (by decide)) (fun h1561 => ?_)
        refine s_aload_n (pc := 1564) (i := 3) dL_law__1564 rfl rfl ?_
        refine m_ic (pc := 1565) (v := 0) dL_law__1565 rfl ?_
        refine m_la (pc := 1566) dL_law__1566 a_560 (vp_in_nI (n := 0) (by omega) (by decide)) ?_
        refine m_nl (v' := v1.toInt64) (uJ_s) ?_
        refine s_iload (pc := 1567) (i := 6) dL_law__1567 rfl ?_
        refine s_i2l (pc := 1569) dL_law__1569 ?_
        refine s_lcmp (pc := 1570) dL_law__1570 ?_
        refine m_nm (v' := 0) (lg_cc) ?_
        refine s_ifeq (pc := 1571) (tgt := 1576) dL_law__1571 rfl (fun h1571 => ?_) (fun h1571 => absurd h1571 (by decide))
        refine s_goto (pc := 1576) (tgt := 2692) dL_law__1576 rfl ?_
        exact hK x1 I2 _ n w _ _ _ _ hg1 (cI_m hg1 hc1 f2) hm2 (by omega) (by omega)
  · obtain ⟨c1, ec1, nc1⟩ := hA k1 e1
    refine ⟨c1, ec1, kt_s ?_⟩
    refine s_istore (pc := 1534) (i := 5) dL_law__1534 (Nat.le_of_ble_eq_true rfl) ?_
    dsimp only [List.set, List.filter]
    refine s_aload_n (pc := 1536) (i := 2) dL_law__1536 rfl rfl ?_
    refine s_aload_n (pc := 1537) (i := 0) dL_law__1537 rfl rfl ?_
    refine s_iload (pc := 1538) (i := 4) dL_law__1538 rfl ?_
    refine m_ic (pc := 1540) (v := 1) dL_law__1540 rfl ?_
    refine s_iadd (pc := 1541) dL_law__1541 ?_
    refine m_nm (v' := nI ((10 * q) + 1)) (nI_add (10 * q) 1) ?_
    refine s_sld (pc := 1542) dL_law__1542 (vp_in_nI (n := (10 * q) + 1) (by omega) (by omega)) ?_
    refine m_nm (v' := gx g (10 * q + 1)) (rdX (by omega)) ?_
    refine m_v1 (pc := 1543) dL_law__1543 lk_L_201 ok_X12_look (rcO o_534 (by decide) rfl) rfl rfl (hM g (d + 30) I1 J (n + 1) (w + 6) _ (mI_c hm f1) (fun v2 I2 e2 _ _ _ => (by rw [e1] at e2; cases e2)) (fun k2 I2 e2 hm2 f2 h0 => kt_s ?_))
    · have ek : k1 = k2 := by rw [e1] at e2; cases e2; rfl
      subst ek
      have h0 : I2 534 0 = c1 := h0.trans (by rw [ec1]; rfl)
      refine s_istore (pc := 1546) (i := 6) dL_law__1546 (Nat.le_of_ble_eq_true rfl) ?_
      dsimp only [List.set, List.filter]
      refine s_aload_n (pc := 1548) (i := 2) dL_law__1548 rfl rfl ?_
      refine m_v0 (pc := 1549) dL_law__1549 lk_L_134 ok_X12_thrown (rcO o_534 (by decide) rfl) rfl rfl (c_X12_thrown h0 (kt_s ?_))
      refine s_iload (pc := 1552) (i := 5) dL_law__1552 rfl ?_
      refine s_iceq (pc := 1554) (tgt := 1559) dL_law__1554 rfl (fun h1554 => ?_) (fun h1554 => absurd (rfl) h1554)
      refine s_iload (pc := 1559) (i := 5) dL_law__1559 rfl ?_
      refine s_ifne (pc := 1561) (tgt := 1576) dL_law__1561 rfl (fun h1561 => ?_) (fun h1561 => absurd h1561 (nc1))
      refine s_goto (pc := 1576) (tgt := 2692) dL_law__1576 rfl ?_
      exact hK x1 I2 J (n + 1) (w + 6) _ _ _ _ hg1 (cI_m hg1 hc1 f2) hm2 (by omega) (by omega)
theorem lw_22 {x : gX} {q : Nat} {v5 v6 v7 : Value} (hN : aNx g) (hL : 10 * q + 10 ≤ gL g) (hL2 : gL g ≤ 5120) (hx : gOk x) (hc : cI x I) (hm : mI x I) (hn : n + 1 ≤ 600000 ∧ w + 6 ≤ 7000000) (hK : ∀ (x' : gX) (I' : Nat → Nat → Int32) (J' : Nat → Nat → Int64) (n' w' : Nat) (v5 v6 v7 : Value) (ll : List (Nat × Int64)), gOk x' → cI x' I' → mI x' I' → n' ≤ n + 1 → w' ≤ w + 6 → Rn g (d + 40) mL_law_ 2692 [.ref 0, .ref 1, .ref 534, .ref 560, .int (nI (10 * q)), v5, v6, v7] ll [] (Z I' J' n' w') Q) : Rn g (d + 40) mL_law_ 1579 [.ref 0, .ref 1, .ref 534, .ref 560, .int (nI (10 * q)), v5, v6, v7] [] [] (Z I J n w) Q := by
  obtain ⟨x1, A1, hg1, hA, hC, hM⟩ := pr_quorum (x := gx g (10 * q + 1)) (y := gx g (10 * q + 2)) hx
  refine s_aload_n (pc := 1579) (i := 1) dL_law__1579 rfl rfl ?_
  refine s_aload_n (pc := 1580) (i := 0) dL_law__1580 rfl rfl ?_
  refine s_iload (pc := 1581) (i := 4) dL_law__1581 rfl ?_
  refine m_ic (pc := 1583) (v := 1) dL_law__1583 rfl ?_
  refine s_iadd (pc := 1584) dL_law__1584 ?_
  refine m_nm (v' := nI ((10 * q) + 1)) (nI_add (10 * q) 1) ?_
  refine s_sld (pc := 1585) dL_law__1585 (vp_in_nI (n := (10 * q) + 1) (by omega) (by omega)) ?_
  refine m_nm (v' := gx g (10 * q + 1)) (rdX (by omega)) ?_
  refine s_aload_n (pc := 1586) (i := 0) dL_law__1586 rfl rfl ?_
  refine s_iload (pc := 1587) (i := 4) dL_law__1587 rfl ?_
  refine m_ic (pc := 1589) (v := 2) dL_law__1589 rfl ?_
  refine s_iadd (pc := 1590) dL_law__1590 ?_
  refine m_nm (v' := nI ((10 * q) + 2)) (nI_add (10 * q) 2) ?_
  refine s_sld (pc := 1591) dL_law__1591 (vp_in_nI (n := (10 * q) + 2) (by omega) (by omega)) ?_
  refine m_nm (v' := gx g (10 * q + 2)) (rdX (by omega)) ?_
  refine s_aload_n (pc := 1592) (i := 3) dL_law__1592 rfl rfl ?_
  refine m_h4 (y' := mL_quorum) (pc := 1593) dL_law__1593 ml_L_202 ok_L_quorum sa_L_quorum rfl rfl (c_L_quorum hN (hC g (d + 30) I J n w _ hc hn (fun v1 I1 e1 hc1 f1 => ⟨I1, J, n, w, rfl, kt_s ?_⟩) (fun k1 I1 e1 hc1 f1 => ?_)))
  · refine s_istore (pc := 1596) (i := 5) dL_law__1596 (Nat.le_of_ble_eq_true rfl) ?_
    dsimp only [List.set, List.filter]
    refine s_aload_n (pc := 1598) (i := 2) dL_law__1598 rfl rfl ?_
    refine s_aload_n (pc := 1599) (i := 0) dL_law__1599 rfl rfl ?_
    refine s_iload (pc := 1600) (i := 4) dL_law__1600 rfl ?_
    refine m_ic (pc := 1602) (v := 1) dL_law__1602 rfl ?_
    refine s_iadd (pc := 1603) dL_law__1603 ?_
    refine m_nm (v' := nI ((10 * q) + 1)) (nI_add (10 * q) 1) ?_
    refine s_sld (pc := 1604) dL_law__1604 (vp_in_nI (n := (10 * q) + 1) (by omega) (by omega)) ?_
    refine m_nm (v' := gx g (10 * q + 1)) (rdX (by omega)) ?_
    refine s_aload_n (pc := 1605) (i := 0) dL_law__1605 rfl rfl ?_
    refine s_iload (pc := 1606) (i := 4) dL_law__1606 rfl ?_
    refine m_ic (pc := 1608) (v := 2) dL_law__1608 rfl ?_
    refine s_iadd (pc := 1609) dL_law__1609 ?_
    refine m_nm (v' := nI ((10 * q) + 2)) (nI_add (10 * q) 2) ?_
    refine s_sld (pc := 1610) dL_law__1610 (vp_in_nI (n := (10 * q) + 2) (by omega) (by omega)) ?_
    refine m_nm (v' := gx g (10 * q + 2)) (rdX (by omega)) ?_
    refine m_v2 (pc := 1611) dL_law__1611 lk_L_204 ok_X12_quorum (rcO o_534 (by decide) rfl) rfl rfl (hM g (d + 37) I1 (upJ J 560 0 v1.toInt64) n w _ (mI_c hm f1) (fun v2 I2 e2 hm2 f2 h0 => kt_s ?_) (fun k2 I2 e2 _ _ _ => (by rw [e1] at e2; cases e2)))
    · have ev : v1 = v2 := by rw [e1] at e2; cases e2; rfl
      subst ev
      refine s_istore (pc := 1614) (i := 6) dL_law__1614 (Nat.le_of_ble_eq_true rfl) ?_
      dsimp only [List.set, List.filter]
      refine s_aload_n (pc := 1616) (i := 2) dL_law__1616 rfl rfl ?_
      refine m_v0 (pc := 1617) dL_law__1617 lk_L_134 ok_X12_thrown (rcO o_534 (by decide) rfl) rfl rfl (c_X12_thrown h0 (kt_s ?_))
      · refine s_iload (pc := 1620) (i := 5) dL_law__1620 rfl ?_
        refine s_iceq (pc := 1622) (tgt := 1627) dL_law__1622 rfl (fun h1622 => ?_) (fun h1622 => absurd h1622 (by decide))
        refine s_iload (pc := 1627) (i := 5) dL_law__1627 rfl ?_
        refine s_ifne (pc := 1629) (tgt := 1644) dL_law__1629 rfl (fun h1629 => absurd h1629 (by decide)) (fun h1629 => ?_)
        refine s_aload_n (pc := 1632) (i := 3) dL_law__1632 rfl rfl ?_
        refine m_ic (pc := 1633) (v := 0) dL_law__1633 rfl ?_
        refine m_la (pc := 1634) dL_law__1634 a_560 (vp_in_nI (n := 0) (by omega) (by decide)) ?_
        refine m_nl (v' := v1.toInt64) (uJ_s) ?_
        refine s_iload (pc := 1635) (i := 6) dL_law__1635 rfl ?_
        refine s_i2l (pc := 1637) dL_law__1637 ?_
        refine s_lcmp (pc := 1638) dL_law__1638 ?_
        refine m_nm (v' := 0) (lg_cc) ?_
        refine s_ifeq (pc := 1639) (tgt := 1644) dL_law__1639 rfl (fun h1639 => ?_) (fun h1639 => absurd h1639 (by decide))
        refine s_goto (pc := 1644) (tgt := 2692) dL_law__1644 rfl ?_
        exact hK x1 I2 _ n w _ _ _ _ hg1 (cI_m hg1 hc1 f2) hm2 (by omega) (by omega)
  · obtain ⟨c1, ec1, nc1⟩ := hA k1 e1
    refine ⟨c1, ec1, kt_s ?_⟩
    refine s_istore (pc := 1596) (i := 5) dL_law__1596 (Nat.le_of_ble_eq_true rfl) ?_
    dsimp only [List.set, List.filter]
    refine s_aload_n (pc := 1598) (i := 2) dL_law__1598 rfl rfl ?_
    refine s_aload_n (pc := 1599) (i := 0) dL_law__1599 rfl rfl ?_
    refine s_iload (pc := 1600) (i := 4) dL_law__1600 rfl ?_
    refine m_ic (pc := 1602) (v := 1) dL_law__1602 rfl ?_
    refine s_iadd (pc := 1603) dL_law__1603 ?_
    refine m_nm (v' := nI ((10 * q) + 1)) (nI_add (10 * q) 1) ?_
    refine s_sld (pc := 1604) dL_law__1604 (vp_in_nI (n := (10 * q) + 1) (by omega) (by omega)) ?_
    refine m_nm (v' := gx g (10 * q + 1)) (rdX (by omega)) ?_
    refine s_aload_n (pc := 1605) (i := 0) dL_law__1605 rfl rfl ?_
    refine s_iload (pc := 1606) (i := 4) dL_law__1606 rfl ?_
    refine m_ic (pc := 1608) (v := 2) dL_law__1608 rfl ?_
    refine s_iadd (pc := 1609) dL_law__1609 ?_
    refine m_nm (v' := nI ((10 * q) + 2)) (nI_add (10 * q) 2) ?_
    refine s_sld (pc := 1610) dL_law__1610 (vp_in_nI (n := (10 * q) + 2) (by omega) (by omega)) ?_
    refine m_nm (v' := gx g (10 * q + 2)) (rdX (by omega)) ?_
    refine m_v2 (pc := 1611) dL_law__1611 lk_L_204 ok_X12_quorum (rcO o_534 (by decide) rfl) rfl rfl (hM g (d + 37) I1 J (n + 1) (w + 6) _ (mI_c hm f1) (fun v2 I2 e2 _ _ _ => (by rw [e1] at e2; cases e2)) (fun k2 I2 e2 hm2 f2 h0 => kt_s ?_))
    · have ek : k1 = k2 := by rw [e1] at e2; cases e2; rfl
      subst ek
      have h0 : I2 534 0 = c1 := h0.trans (by rw [ec1]; rfl)
      refine s_istore (pc := 1614) (i := 6) dL_law__1614 (Nat.le_of_ble_eq_true rfl) ?_
      dsimp only [List.set, List.filter]
      refine s_aload_n (pc := 1616) (i := 2) dL_law__1616 rfl rfl ?_
      refine m_v0 (pc := 1617) dL_law__1617 lk_L_134 ok_X12_thrown (rcO o_534 (by decide) rfl) rfl rfl (c_X12_thrown h0 (kt_s ?_))
      refine s_iload (pc := 1620) (i := 5) dL_law__1620 rfl ?_
      refine s_iceq (pc := 1622) (tgt := 1627) dL_law__1622 rfl (fun h1622 => ?_) (fun h1622 => absurd (rfl) h1622)
      refine s_iload (pc := 1627) (i := 5) dL_law__1627 rfl ?_
      refine s_ifne (pc := 1629) (tgt := 1644) dL_law__1629 rfl (fun h1629 => ?_) (fun h1629 => absurd h1629 (nc1))
      refine s_goto (pc := 1644) (tgt := 2692) dL_law__1644 rfl ?_
      exact hK x1 I2 J (n + 1) (w + 6) _ _ _ _ hg1 (cI_m hg1 hc1 f2) hm2 (by omega) (by omega)
theorem lw_23 {x : gX} {q : Nat} {v5 v6 v7 : Value} (hN : aNx g) (hL : 10 * q + 10 ≤ gL g) (hL2 : gL g ≤ 5120) (hx : gOk x) (hc : cI x I) (hm : mI x I) (hn : n + 1 ≤ 600000 ∧ w + 6 ≤ 7000000) (hK : ∀ (x' : gX) (I' : Nat → Nat → Int32) (J' : Nat → Nat → Int64) (n' w' : Nat) (v5 v6 v7 : Value) (ll : List (Nat × Int64)), gOk x' → cI x' I' → mI x' I' → n' ≤ n + 1 → w' ≤ w + 6 → Rn g (d + 40) mL_law_ 2692 [.ref 0, .ref 1, .ref 534, .ref 560, .int (nI (10 * q)), v5, v6, v7] ll [] (Z I' J' n' w') Q) : Rn g (d + 40) mL_law_ 1647 [.ref 0, .ref 1, .ref 534, .ref 560, .int (nI (10 * q)), v5, v6, v7] [] [] (Z I J n w) Q := by
  obtain ⟨x1, A1, hg1, hA, hC, hM⟩ := pr_lies (x := gx g (10 * q + 1)) (y := gx g (10 * q + 2)) (z := gx g (10 * q + 3)) (u := gx g (10 * q + 4)) hx
  refine s_aload_n (pc := 1647) (i := 1) dL_law__1647 rfl rfl ?_
  refine s_aload_n (pc := 1648) (i := 0) dL_law__1648 rfl rfl ?_
  refine s_iload (pc := 1649) (i := 4) dL_law__1649 rfl ?_
  refine m_ic (pc := 1651) (v := 1) dL_law__1651 rfl ?_
  refine s_iadd (pc := 1652) dL_law__1652 ?_
  refine m_nm (v' := nI ((10 * q) + 1)) (nI_add (10 * q) 1) ?_
  refine s_sld (pc := 1653) dL_law__1653 (vp_in_nI (n := (10 * q) + 1) (by omega) (by omega)) ?_
  refine m_nm (v' := gx g (10 * q + 1)) (rdX (by omega)) ?_
  refine s_aload_n (pc := 1654) (i := 0) dL_law__1654 rfl rfl ?_
  refine s_iload (pc := 1655) (i := 4) dL_law__1655 rfl ?_
  refine m_ic (pc := 1657) (v := 2) dL_law__1657 rfl ?_
  refine s_iadd (pc := 1658) dL_law__1658 ?_
  refine m_nm (v' := nI ((10 * q) + 2)) (nI_add (10 * q) 2) ?_
  refine s_sld (pc := 1659) dL_law__1659 (vp_in_nI (n := (10 * q) + 2) (by omega) (by omega)) ?_
  refine m_nm (v' := gx g (10 * q + 2)) (rdX (by omega)) ?_
  refine s_aload_n (pc := 1660) (i := 0) dL_law__1660 rfl rfl ?_
  refine s_iload (pc := 1661) (i := 4) dL_law__1661 rfl ?_
  refine m_ic (pc := 1663) (v := 3) dL_law__1663 rfl ?_
  refine s_iadd (pc := 1664) dL_law__1664 ?_
  refine m_nm (v' := nI ((10 * q) + 3)) (nI_add (10 * q) 3) ?_
  refine s_sld (pc := 1665) dL_law__1665 (vp_in_nI (n := (10 * q) + 3) (by omega) (by omega)) ?_
  refine m_nm (v' := gx g (10 * q + 3)) (rdX (by omega)) ?_
  refine s_aload_n (pc := 1666) (i := 0) dL_law__1666 rfl rfl ?_
  refine s_iload (pc := 1667) (i := 4) dL_law__1667 rfl ?_
  refine m_ic (pc := 1669) (v := 4) dL_law__1669 rfl ?_
  refine s_iadd (pc := 1670) dL_law__1670 ?_
  refine m_nm (v' := nI ((10 * q) + 4)) (nI_add (10 * q) 4) ?_
  refine s_sld (pc := 1671) dL_law__1671 (vp_in_nI (n := (10 * q) + 4) (by omega) (by omega)) ?_
  refine m_nm (v' := gx g (10 * q + 4)) (rdX (by omega)) ?_
  refine s_aload_n (pc := 1672) (i := 3) dL_law__1672 rfl rfl ?_
  refine m_h6 (y' := mL_lies) (pc := 1673) dL_law__1673 ml_L_205 ok_L_lies sa_L_lies rfl rfl (c_L_lies hN (hC g (d + 30) I J n w _ hc hn (fun v1 I1 e1 hc1 f1 => ⟨I1, J, n, w, rfl, kt_s ?_⟩) (fun k1 I1 e1 hc1 f1 => ?_)))
  · refine s_istore (pc := 1676) (i := 5) dL_law__1676 (Nat.le_of_ble_eq_true rfl) ?_
    dsimp only [List.set, List.filter]
    refine s_aload_n (pc := 1678) (i := 2) dL_law__1678 rfl rfl ?_
    refine s_aload_n (pc := 1679) (i := 0) dL_law__1679 rfl rfl ?_
    refine s_iload (pc := 1680) (i := 4) dL_law__1680 rfl ?_
    refine m_ic (pc := 1682) (v := 1) dL_law__1682 rfl ?_
    refine s_iadd (pc := 1683) dL_law__1683 ?_
    refine m_nm (v' := nI ((10 * q) + 1)) (nI_add (10 * q) 1) ?_
    refine s_sld (pc := 1684) dL_law__1684 (vp_in_nI (n := (10 * q) + 1) (by omega) (by omega)) ?_
    refine m_nm (v' := gx g (10 * q + 1)) (rdX (by omega)) ?_
    refine s_aload_n (pc := 1685) (i := 0) dL_law__1685 rfl rfl ?_
    refine s_iload (pc := 1686) (i := 4) dL_law__1686 rfl ?_
    refine m_ic (pc := 1688) (v := 2) dL_law__1688 rfl ?_
    refine s_iadd (pc := 1689) dL_law__1689 ?_
    refine m_nm (v' := nI ((10 * q) + 2)) (nI_add (10 * q) 2) ?_
    refine s_sld (pc := 1690) dL_law__1690 (vp_in_nI (n := (10 * q) + 2) (by omega) (by omega)) ?_
    refine m_nm (v' := gx g (10 * q + 2)) (rdX (by omega)) ?_
    refine s_aload_n (pc := 1691) (i := 0) dL_law__1691 rfl rfl ?_
    refine s_iload (pc := 1692) (i := 4) dL_law__1692 rfl ?_
    refine m_ic (pc := 1694) (v := 3) dL_law__1694 rfl ?_
    refine s_iadd (pc := 1695) dL_law__1695 ?_
    refine m_nm (v' := nI ((10 * q) + 3)) (nI_add (10 * q) 3) ?_
    refine s_sld (pc := 1696) dL_law__1696 (vp_in_nI (n := (10 * q) + 3) (by omega) (by omega)) ?_
    refine m_nm (v' := gx g (10 * q + 3)) (rdX (by omega)) ?_
    refine s_aload_n (pc := 1697) (i := 0) dL_law__1697 rfl rfl ?_
    refine s_iload (pc := 1698) (i := 4) dL_law__1698 rfl ?_
    refine m_ic (pc := 1700) (v := 4) dL_law__1700 rfl ?_
    refine s_iadd (pc := 1701) dL_law__1701 ?_
    refine m_nm (v' := nI ((10 * q) + 4)) (nI_add (10 * q) 4) ?_
    refine s_sld (pc := 1702) dL_law__1702 (vp_in_nI (n := (10 * q) + 4) (by omega) (by omega)) ?_
    refine m_nm (v' := gx g (10 * q + 4)) (rdX (by omega)) ?_
    refine m_v4 (pc := 1703) dL_law__1703 lk_L_208 ok_X12_lies (rcO o_534 (by decide) rfl) rfl rfl (hM g (d + 37) I1 (upJ J 560 0 v1) n w _ (mI_c hm f1) (fun v2 I2 J9 e2 hm2 f2 h0 hj => kt_s ?_) (fun k2 I2 e2 _ _ _ => (by rw [e1] at e2; cases e2)))
    · have ev : v1 = v2 := by rw [e1] at e2; cases e2; rfl
      subst ev
      refine s_lstore (pc := 1706) (i := 6) dL_law__1706 (Nat.le_of_ble_eq_true rfl) ?_
      dsimp only [List.set, List.filter]
      refine s_aload_n (pc := 1708) (i := 2) dL_law__1708 rfl rfl ?_
      refine m_v0 (pc := 1709) dL_law__1709 lk_L_134 ok_X12_thrown (rcO o_534 (by decide) rfl) rfl rfl (c_X12_thrown h0 (kt_s ?_))
      · refine s_iload (pc := 1712) (i := 5) dL_law__1712 rfl ?_
        refine s_iceq (pc := 1714) (tgt := 1719) dL_law__1714 rfl (fun h1714 => ?_) (fun h1714 => absurd h1714 (by decide))
        refine s_iload (pc := 1719) (i := 5) dL_law__1719 rfl ?_
        refine s_ifne (pc := 1721) (tgt := 1735) dL_law__1721 rfl (fun h1721 => absurd h1721 (by decide)) (fun h1721 => ?_)
        refine s_aload_n (pc := 1724) (i := 3) dL_law__1724 rfl rfl ?_
        refine m_ic (pc := 1725) (v := 0) dL_law__1725 rfl ?_
        refine m_la (pc := 1726) dL_law__1726 a_560 (vp_in_nI (n := 0) (by omega) (by decide)) ?_
        refine m_nl (v' := v1) ((congrFun (hj 560 (by decide)) _).trans uJ_s) ?_
        refine s_lload (pc := 1727) (i := 6) dL_law__1727 (List.Mem.head _) ?_
        refine s_lcmp (pc := 1729) dL_law__1729 ?_
        refine m_nm (v' := 0) (lg_cc) ?_
        refine s_ifeq (pc := 1730) (tgt := 1735) dL_law__1730 rfl (fun h1730 => ?_) (fun h1730 => absurd h1730 (by decide))
        refine s_goto (pc := 1735) (tgt := 2692) dL_law__1735 rfl ?_
        exact hK x1 I2 J9 n w _ _ _ _ hg1 (cI_m hg1 hc1 f2) hm2 (by omega) (by omega)
  · obtain ⟨c1, ec1, nc1⟩ := hA k1 e1
    refine ⟨c1, ec1, kt_s ?_⟩
    refine s_istore (pc := 1676) (i := 5) dL_law__1676 (Nat.le_of_ble_eq_true rfl) ?_
    dsimp only [List.set, List.filter]
    refine s_aload_n (pc := 1678) (i := 2) dL_law__1678 rfl rfl ?_
    refine s_aload_n (pc := 1679) (i := 0) dL_law__1679 rfl rfl ?_
    refine s_iload (pc := 1680) (i := 4) dL_law__1680 rfl ?_
    refine m_ic (pc := 1682) (v := 1) dL_law__1682 rfl ?_
    refine s_iadd (pc := 1683) dL_law__1683 ?_
    refine m_nm (v' := nI ((10 * q) + 1)) (nI_add (10 * q) 1) ?_
    refine s_sld (pc := 1684) dL_law__1684 (vp_in_nI (n := (10 * q) + 1) (by omega) (by omega)) ?_
    refine m_nm (v' := gx g (10 * q + 1)) (rdX (by omega)) ?_
    refine s_aload_n (pc := 1685) (i := 0) dL_law__1685 rfl rfl ?_
    refine s_iload (pc := 1686) (i := 4) dL_law__1686 rfl ?_
    refine m_ic (pc := 1688) (v := 2) dL_law__1688 rfl ?_
    refine s_iadd (pc := 1689) dL_law__1689 ?_
    refine m_nm (v' := nI ((10 * q) + 2)) (nI_add (10 * q) 2) ?_
    refine s_sld (pc := 1690) dL_law__1690 (vp_in_nI (n := (10 * q) + 2) (by omega) (by omega)) ?_
    refine m_nm (v' := gx g (10 * q + 2)) (rdX (by omega)) ?_
    refine s_aload_n (pc := 1691) (i := 0) dL_law__1691 rfl rfl ?_
    refine s_iload (pc := 1692) (i := 4) dL_law__1692 rfl ?_
    refine m_ic (pc := 1694) (v := 3) dL_law__1694 rfl ?_
    refine s_iadd (pc := 1695) dL_law__1695 ?_
    refine m_nm (v' := nI ((10 * q) + 3)) (nI_add (10 * q) 3) ?_
    refine s_sld (pc := 1696) dL_law__1696 (vp_in_nI (n := (10 * q) + 3) (by omega) (by omega)) ?_
    refine m_nm (v' := gx g (10 * q + 3)) (rdX (by omega)) ?_
    refine s_aload_n (pc := 1697) (i := 0) dL_law__1697 rfl rfl ?_
    refine s_iload (pc := 1698) (i := 4) dL_law__1698 rfl ?_
    refine m_ic (pc := 1700) (v := 4) dL_law__1700 rfl ?_
    refine s_iadd (pc := 1701) dL_law__1701 ?_
    refine m_nm (v' := nI ((10 * q) + 4)) (nI_add (10 * q) 4) ?_
    refine s_sld (pc := 1702) dL_law__1702 (vp_in_nI (n := (10 * q) + 4) (by omega) (by omega)) ?_
    refine m_nm (v' := gx g (10 * q + 4)) (rdX (by omega)) ?_
    refine m_v4 (pc := 1703) dL_law__1703 lk_L_208 ok_X12_lies (rcO o_534 (by decide) rfl) rfl rfl (hM g (d + 37) I1 J (n + 1) (w + 6) _ (mI_c hm f1) (fun v2 I2 J9 e2 _ _ _ _ => (by rw [e1] at e2; cases e2)) (fun k2 I2 e2 hm2 f2 h0 => kt_s ?_))
    · have ek : k1 = k2 := by rw [e1] at e2; cases e2; rfl
      subst ek
      have h0 : I2 534 0 = c1 := h0.trans (by rw [ec1]; rfl)
      refine s_lstore (pc := 1706) (i := 6) dL_law__1706 (Nat.le_of_ble_eq_true rfl) ?_
      dsimp only [List.set, List.filter]
      refine s_aload_n (pc := 1708) (i := 2) dL_law__1708 rfl rfl ?_
      refine m_v0 (pc := 1709) dL_law__1709 lk_L_134 ok_X12_thrown (rcO o_534 (by decide) rfl) rfl rfl (c_X12_thrown h0 (kt_s ?_))
      refine s_iload (pc := 1712) (i := 5) dL_law__1712 rfl ?_
      refine s_iceq (pc := 1714) (tgt := 1719) dL_law__1714 rfl (fun h1714 => ?_) (fun h1714 => absurd (rfl) h1714)
      refine s_iload (pc := 1719) (i := 5) dL_law__1719 rfl ?_
      refine s_ifne (pc := 1721) (tgt := 1735) dL_law__1721 rfl (fun h1721 => ?_) (fun h1721 => absurd h1721 (nc1))
      refine s_goto (pc := 1735) (tgt := 2692) dL_law__1735 rfl ?_
      exact hK x1 I2 J (n + 1) (w + 6) _ _ _ _ hg1 (cI_m hg1 hc1 f2) hm2 (by omega) (by omega)
theorem lw_24 {x : gX} {q : Nat} {v5 v6 v7 : Value} (hN : aNx g) (hL : 10 * q + 10 ≤ gL g) (hL2 : gL g ≤ 5120) (hx : gOk x) (hc : cI x I) (hm : mI x I) (hn : n + 1 ≤ 600000 ∧ w + 6 ≤ 7000000) (hK : ∀ (x' : gX) (I' : Nat → Nat → Int32) (J' : Nat → Nat → Int64) (n' w' : Nat) (v5 v6 v7 : Value) (ll : List (Nat × Int64)), gOk x' → cI x' I' → mI x' I' → n' ≤ n + 1 → w' ≤ w + 6 → Rn g (d + 40) mL_law_ 2692 [.ref 0, .ref 1, .ref 534, .ref 560, .int (nI (10 * q)), v5, v6, v7] ll [] (Z I' J' n' w') Q) : Rn g (d + 40) mL_law_ 1738 [.ref 0, .ref 1, .ref 534, .ref 560, .int (nI (10 * q)), v5, v6, v7] [] [] (Z I J n w) Q := by
  obtain ⟨x1, A1, hg1, hA, hC, hM⟩ := pr_kneel (x := gx g (10 * q + 1)) (y := gx g (10 * q + 2)) (z := gx g (10 * q + 3)) hx
  refine s_aload_n (pc := 1738) (i := 1) dL_law__1738 rfl rfl ?_
  refine s_aload_n (pc := 1739) (i := 0) dL_law__1739 rfl rfl ?_
  refine s_iload (pc := 1740) (i := 4) dL_law__1740 rfl ?_
  refine m_ic (pc := 1742) (v := 1) dL_law__1742 rfl ?_
  refine s_iadd (pc := 1743) dL_law__1743 ?_
  refine m_nm (v' := nI ((10 * q) + 1)) (nI_add (10 * q) 1) ?_
  refine s_sld (pc := 1744) dL_law__1744 (vp_in_nI (n := (10 * q) + 1) (by omega) (by omega)) ?_
  refine m_nm (v' := gx g (10 * q + 1)) (rdX (by omega)) ?_
  refine s_aload_n (pc := 1745) (i := 0) dL_law__1745 rfl rfl ?_
  refine s_iload (pc := 1746) (i := 4) dL_law__1746 rfl ?_
  refine m_ic (pc := 1748) (v := 2) dL_law__1748 rfl ?_
  refine s_iadd (pc := 1749) dL_law__1749 ?_
  refine m_nm (v' := nI ((10 * q) + 2)) (nI_add (10 * q) 2) ?_
  refine s_sld (pc := 1750) dL_law__1750 (vp_in_nI (n := (10 * q) + 2) (by omega) (by omega)) ?_
  refine m_nm (v' := gx g (10 * q + 2)) (rdX (by omega)) ?_
  refine s_aload_n (pc := 1751) (i := 0) dL_law__1751 rfl rfl ?_
  refine s_iload (pc := 1752) (i := 4) dL_law__1752 rfl ?_
  refine m_ic (pc := 1754) (v := 3) dL_law__1754 rfl ?_
  refine s_iadd (pc := 1755) dL_law__1755 ?_
  refine m_nm (v' := nI ((10 * q) + 3)) (nI_add (10 * q) 3) ?_
  refine s_sld (pc := 1756) dL_law__1756 (vp_in_nI (n := (10 * q) + 3) (by omega) (by omega)) ?_
  refine m_nm (v' := gx g (10 * q + 3)) (rdX (by omega)) ?_
  refine s_aload_n (pc := 1757) (i := 3) dL_law__1757 rfl rfl ?_
  refine m_h5 (y' := mL_kneel) (pc := 1758) dL_law__1758 ml_L_209 ok_L_kneel sa_L_kneel rfl rfl (c_L_kneel hN (hC g (d + 30) I J n w _ hc hn (fun v1 I1 e1 hc1 f1 => ⟨I1, J, n, w, rfl, kt_s ?_⟩) (fun k1 I1 e1 hc1 f1 => ?_)))
  · refine s_istore (pc := 1761) (i := 5) dL_law__1761 (Nat.le_of_ble_eq_true rfl) ?_
    dsimp only [List.set, List.filter]
    refine s_aload_n (pc := 1763) (i := 2) dL_law__1763 rfl rfl ?_
    refine s_aload_n (pc := 1764) (i := 0) dL_law__1764 rfl rfl ?_
    refine s_iload (pc := 1765) (i := 4) dL_law__1765 rfl ?_
    refine m_ic (pc := 1767) (v := 1) dL_law__1767 rfl ?_
    refine s_iadd (pc := 1768) dL_law__1768 ?_
    refine m_nm (v' := nI ((10 * q) + 1)) (nI_add (10 * q) 1) ?_
    refine s_sld (pc := 1769) dL_law__1769 (vp_in_nI (n := (10 * q) + 1) (by omega) (by omega)) ?_
    refine m_nm (v' := gx g (10 * q + 1)) (rdX (by omega)) ?_
    refine s_aload_n (pc := 1770) (i := 0) dL_law__1770 rfl rfl ?_
    refine s_iload (pc := 1771) (i := 4) dL_law__1771 rfl ?_
    refine m_ic (pc := 1773) (v := 2) dL_law__1773 rfl ?_
    refine s_iadd (pc := 1774) dL_law__1774 ?_
    refine m_nm (v' := nI ((10 * q) + 2)) (nI_add (10 * q) 2) ?_
    refine s_sld (pc := 1775) dL_law__1775 (vp_in_nI (n := (10 * q) + 2) (by omega) (by omega)) ?_
    refine m_nm (v' := gx g (10 * q + 2)) (rdX (by omega)) ?_
    refine s_aload_n (pc := 1776) (i := 0) dL_law__1776 rfl rfl ?_
    refine s_iload (pc := 1777) (i := 4) dL_law__1777 rfl ?_
    refine m_ic (pc := 1779) (v := 3) dL_law__1779 rfl ?_
    refine s_iadd (pc := 1780) dL_law__1780 ?_
    refine m_nm (v' := nI ((10 * q) + 3)) (nI_add (10 * q) 3) ?_
    refine s_sld (pc := 1781) dL_law__1781 (vp_in_nI (n := (10 * q) + 3) (by omega) (by omega)) ?_
    refine m_nm (v' := gx g (10 * q + 3)) (rdX (by omega)) ?_
    refine m_v3 (pc := 1782) dL_law__1782 lk_L_212 ok_X12_kneel (rcO o_534 (by decide) rfl) rfl rfl (hM g (d + 36) I1 (upJ J 560 0 v1.toInt64) n w _ (mI_c hm f1) (fun v2 I2 e2 hm2 f2 h0 => kt_s ?_) (fun k2 I2 e2 _ _ _ => (by rw [e1] at e2; cases e2)))
    · have ev : v1 = v2 := by rw [e1] at e2; cases e2; rfl
      subst ev
      refine s_istore (pc := 1785) (i := 6) dL_law__1785 (Nat.le_of_ble_eq_true rfl) ?_
      dsimp only [List.set, List.filter]
      refine s_aload_n (pc := 1787) (i := 2) dL_law__1787 rfl rfl ?_
      refine m_v0 (pc := 1788) dL_law__1788 lk_L_134 ok_X12_thrown (rcO o_534 (by decide) rfl) rfl rfl (c_X12_thrown h0 (kt_s ?_))
      · refine s_iload (pc := 1791) (i := 5) dL_law__1791 rfl ?_
        refine s_iceq (pc := 1793) (tgt := 1798) dL_law__1793 rfl (fun h1793 => ?_) (fun h1793 => absurd h1793 (by decide))
        refine s_iload (pc := 1798) (i := 5) dL_law__1798 rfl ?_
        refine s_ifne (pc := 1800) (tgt := 1815) dL_law__1800 rfl (fun h1800 => absurd h1800 (by decide)) (fun h1800 => ?_)
        refine s_aload_n (pc := 1803) (i := 3) dL_law__1803 rfl rfl ?_
        refine m_ic (pc := 1804) (v := 0) dL_law__1804 rfl ?_
        refine m_la (pc := 1805) dL_law__1805 a_560 (vp_in_nI (n := 0) (by omega) (by decide)) ?_
        refine m_nl (v' := v1.toInt64) (uJ_s) ?_
        refine s_iload (pc := 1806) (i := 6) dL_law__1806 rfl ?_
        refine s_i2l (pc := 1808) dL_law__1808 ?_
        refine s_lcmp (pc := 1809) dL_law__1809 ?_
        refine m_nm (v' := 0) (lg_cc) ?_
        refine s_ifeq (pc := 1810) (tgt := 1815) dL_law__1810 rfl (fun h1810 => ?_) (fun h1810 => absurd h1810 (by decide))
        refine s_goto (pc := 1815) (tgt := 2692) dL_law__1815 rfl ?_
        exact hK x1 I2 _ n w _ _ _ _ hg1 (cI_m hg1 hc1 f2) hm2 (by omega) (by omega)
  · obtain ⟨c1, ec1, nc1⟩ := hA k1 e1
    refine ⟨c1, ec1, kt_s ?_⟩
    refine s_istore (pc := 1761) (i := 5) dL_law__1761 (Nat.le_of_ble_eq_true rfl) ?_
    dsimp only [List.set, List.filter]
    refine s_aload_n (pc := 1763) (i := 2) dL_law__1763 rfl rfl ?_
    refine s_aload_n (pc := 1764) (i := 0) dL_law__1764 rfl rfl ?_
    refine s_iload (pc := 1765) (i := 4) dL_law__1765 rfl ?_
    refine m_ic (pc := 1767) (v := 1) dL_law__1767 rfl ?_
    refine s_iadd (pc := 1768) dL_law__1768 ?_
    refine m_nm (v' := nI ((10 * q) + 1)) (nI_add (10 * q) 1) ?_
    refine s_sld (pc := 1769) dL_law__1769 (vp_in_nI (n := (10 * q) + 1) (by omega) (by omega)) ?_
    refine m_nm (v' := gx g (10 * q + 1)) (rdX (by omega)) ?_
    refine s_aload_n (pc := 1770) (i := 0) dL_law__1770 rfl rfl ?_
    refine s_iload (pc := 1771) (i := 4) dL_law__1771 rfl ?_
    refine m_ic (pc := 1773) (v := 2) dL_law__1773 rfl ?_
    refine s_iadd (pc := 1774) dL_law__1774 ?_
    refine m_nm (v' := nI ((10 * q) + 2)) (nI_add (10 * q) 2) ?_
    refine s_sld (pc := 1775) dL_law__1775 (vp_in_nI (n := (10 * q) + 2) (by omega) (by omega)) ?_
    refine m_nm (v' := gx g (10 * q + 2)) (rdX (by omega)) ?_
    refine s_aload_n (pc := 1776) (i := 0) dL_law__1776 rfl rfl ?_
    refine s_iload (pc := 1777) (i := 4) dL_law__1777 rfl ?_
    refine m_ic (pc := 1779) (v := 3) dL_law__1779 rfl ?_
    refine s_iadd (pc := 1780) dL_law__1780 ?_
    refine m_nm (v' := nI ((10 * q) + 3)) (nI_add (10 * q) 3) ?_
    refine s_sld (pc := 1781) dL_law__1781 (vp_in_nI (n := (10 * q) + 3) (by omega) (by omega)) ?_
    refine m_nm (v' := gx g (10 * q + 3)) (rdX (by omega)) ?_
    refine m_v3 (pc := 1782) dL_law__1782 lk_L_212 ok_X12_kneel (rcO o_534 (by decide) rfl) rfl rfl (hM g (d + 36) I1 J (n + 1) (w + 6) _ (mI_c hm f1) (fun v2 I2 e2 _ _ _ => (by rw [e1] at e2; cases e2)) (fun k2 I2 e2 hm2 f2 h0 => kt_s ?_))
    · have ek : k1 = k2 := by rw [e1] at e2; cases e2; rfl
      subst ek
      have h0 : I2 534 0 = c1 := h0.trans (by rw [ec1]; rfl)
      refine s_istore (pc := 1785) (i := 6) dL_law__1785 (Nat.le_of_ble_eq_true rfl) ?_
      dsimp only [List.set, List.filter]
      refine s_aload_n (pc := 1787) (i := 2) dL_law__1787 rfl rfl ?_
      refine m_v0 (pc := 1788) dL_law__1788 lk_L_134 ok_X12_thrown (rcO o_534 (by decide) rfl) rfl rfl (c_X12_thrown h0 (kt_s ?_))
      refine s_iload (pc := 1791) (i := 5) dL_law__1791 rfl ?_
      refine s_iceq (pc := 1793) (tgt := 1798) dL_law__1793 rfl (fun h1793 => ?_) (fun h1793 => absurd (rfl) h1793)
      refine s_iload (pc := 1798) (i := 5) dL_law__1798 rfl ?_
      refine s_ifne (pc := 1800) (tgt := 1815) dL_law__1800 rfl (fun h1800 => ?_) (fun h1800 => absurd h1800 (nc1))
      refine s_goto (pc := 1815) (tgt := 2692) dL_law__1815 rfl ?_
      exact hK x1 I2 J (n + 1) (w + 6) _ _ _ _ hg1 (cI_m hg1 hc1 f2) hm2 (by omega) (by omega)
theorem lw_25 {x : gX} {q : Nat} {v5 v6 v7 : Value} (hN : aNx g) (hL : 10 * q + 10 ≤ gL g) (hL2 : gL g ≤ 5120) (hx : gOk x) (hc : cI x I) (hm : mI x I) (hn : n + 1 ≤ 600000 ∧ w + 6 ≤ 7000000) (hK : ∀ (x' : gX) (I' : Nat → Nat → Int32) (J' : Nat → Nat → Int64) (n' w' : Nat) (v5 v6 v7 : Value) (ll : List (Nat × Int64)), gOk x' → cI x' I' → mI x' I' → n' ≤ n + 1 → w' ≤ w + 6 → Rn g (d + 40) mL_law_ 2692 [.ref 0, .ref 1, .ref 534, .ref 560, .int (nI (10 * q)), v5, v6, v7] ll [] (Z I' J' n' w') Q) : Rn g (d + 40) mL_law_ 1818 [.ref 0, .ref 1, .ref 534, .ref 560, .int (nI (10 * q)), v5, v6, v7] [] [] (Z I J n w) Q := by
  obtain ⟨x1, A1, hg1, hA, hC, hM⟩ := pr_balm (x := gx g (10 * q + 1)) (y := gx g (10 * q + 2)) (z := gx g (10 * q + 3)) hx
  refine s_aload_n (pc := 1818) (i := 1) dL_law__1818 rfl rfl ?_
  refine s_aload_n (pc := 1819) (i := 0) dL_law__1819 rfl rfl ?_
  refine s_iload (pc := 1820) (i := 4) dL_law__1820 rfl ?_
  refine m_ic (pc := 1822) (v := 1) dL_law__1822 rfl ?_
  refine s_iadd (pc := 1823) dL_law__1823 ?_
  refine m_nm (v' := nI ((10 * q) + 1)) (nI_add (10 * q) 1) ?_
  refine s_sld (pc := 1824) dL_law__1824 (vp_in_nI (n := (10 * q) + 1) (by omega) (by omega)) ?_
  refine m_nm (v' := gx g (10 * q + 1)) (rdX (by omega)) ?_
  refine s_aload_n (pc := 1825) (i := 0) dL_law__1825 rfl rfl ?_
  refine s_iload (pc := 1826) (i := 4) dL_law__1826 rfl ?_
  refine m_ic (pc := 1828) (v := 2) dL_law__1828 rfl ?_
  refine s_iadd (pc := 1829) dL_law__1829 ?_
  refine m_nm (v' := nI ((10 * q) + 2)) (nI_add (10 * q) 2) ?_
  refine s_sld (pc := 1830) dL_law__1830 (vp_in_nI (n := (10 * q) + 2) (by omega) (by omega)) ?_
  refine m_nm (v' := gx g (10 * q + 2)) (rdX (by omega)) ?_
  refine s_aload_n (pc := 1831) (i := 0) dL_law__1831 rfl rfl ?_
  refine s_iload (pc := 1832) (i := 4) dL_law__1832 rfl ?_
  refine m_ic (pc := 1834) (v := 3) dL_law__1834 rfl ?_
  refine s_iadd (pc := 1835) dL_law__1835 ?_
  refine m_nm (v' := nI ((10 * q) + 3)) (nI_add (10 * q) 3) ?_
  refine s_sld (pc := 1836) dL_law__1836 (vp_in_nI (n := (10 * q) + 3) (by omega) (by omega)) ?_
  refine m_nm (v' := gx g (10 * q + 3)) (rdX (by omega)) ?_
  refine s_aload_n (pc := 1837) (i := 3) dL_law__1837 rfl rfl ?_
  refine m_h5 (y' := mL_balm) (pc := 1838) dL_law__1838 ml_L_213 ok_L_balm sa_L_balm rfl rfl (c_L_balm hN (hC g (d + 30) I J n w _ hc hn (fun v1 I1 e1 hc1 f1 => ⟨I1, J, n, w, rfl, kt_s ?_⟩) (fun k1 I1 e1 hc1 f1 => ?_)))
  · refine s_istore (pc := 1841) (i := 5) dL_law__1841 (Nat.le_of_ble_eq_true rfl) ?_
    dsimp only [List.set, List.filter]
    refine s_aload_n (pc := 1843) (i := 2) dL_law__1843 rfl rfl ?_
    refine s_aload_n (pc := 1844) (i := 0) dL_law__1844 rfl rfl ?_
    refine s_iload (pc := 1845) (i := 4) dL_law__1845 rfl ?_
    refine m_ic (pc := 1847) (v := 1) dL_law__1847 rfl ?_
    refine s_iadd (pc := 1848) dL_law__1848 ?_
    refine m_nm (v' := nI ((10 * q) + 1)) (nI_add (10 * q) 1) ?_
    refine s_sld (pc := 1849) dL_law__1849 (vp_in_nI (n := (10 * q) + 1) (by omega) (by omega)) ?_
    refine m_nm (v' := gx g (10 * q + 1)) (rdX (by omega)) ?_
    refine s_aload_n (pc := 1850) (i := 0) dL_law__1850 rfl rfl ?_
    refine s_iload (pc := 1851) (i := 4) dL_law__1851 rfl ?_
    refine m_ic (pc := 1853) (v := 2) dL_law__1853 rfl ?_
    refine s_iadd (pc := 1854) dL_law__1854 ?_
    refine m_nm (v' := nI ((10 * q) + 2)) (nI_add (10 * q) 2) ?_
    refine s_sld (pc := 1855) dL_law__1855 (vp_in_nI (n := (10 * q) + 2) (by omega) (by omega)) ?_
    refine m_nm (v' := gx g (10 * q + 2)) (rdX (by omega)) ?_
    refine s_aload_n (pc := 1856) (i := 0) dL_law__1856 rfl rfl ?_
    refine s_iload (pc := 1857) (i := 4) dL_law__1857 rfl ?_
    refine m_ic (pc := 1859) (v := 3) dL_law__1859 rfl ?_
    refine s_iadd (pc := 1860) dL_law__1860 ?_
    refine m_nm (v' := nI ((10 * q) + 3)) (nI_add (10 * q) 3) ?_
    refine s_sld (pc := 1861) dL_law__1861 (vp_in_nI (n := (10 * q) + 3) (by omega) (by omega)) ?_
    refine m_nm (v' := gx g (10 * q + 3)) (rdX (by omega)) ?_
    refine m_v3 (pc := 1862) dL_law__1862 lk_L_215 ok_X12_balm (rcO o_534 (by decide) rfl) rfl rfl (hM g (d + 36) I1 (upJ J 560 0 v1.toInt64) n w _ (mI_c hm f1) (fun v2 I2 e2 hm2 f2 h0 => kt_s ?_) (fun k2 I2 e2 _ _ _ => (by rw [e1] at e2; cases e2)))
    · have ev : v1 = v2 := by rw [e1] at e2; cases e2; rfl
      subst ev
      refine s_istore (pc := 1865) (i := 6) dL_law__1865 (Nat.le_of_ble_eq_true rfl) ?_
      dsimp only [List.set, List.filter]
      refine s_aload_n (pc := 1867) (i := 2) dL_law__1867 rfl rfl ?_
      refine m_v0 (pc := 1868) dL_law__1868 lk_L_134 ok_X12_thrown (rcO o_534 (by decide) rfl) rfl rfl (c_X12_thrown h0 (kt_s ?_))
      · refine s_iload (pc := 1871) (i := 5) dL_law__1871 rfl ?_
        refine s_iceq (pc := 1873) (tgt := 1878) dL_law__1873 rfl (fun h1873 => ?_) (fun h1873 => absurd h1873 (by decide))
        refine s_iload (pc := 1878) (i := 5) dL_law__1878 rfl ?_
        refine s_ifne (pc := 1880) (tgt := 1895) dL_law__1880 rfl (fun h1880 => absurd h1880 (by decide)) (fun h1880 => ?_)
        refine s_aload_n (pc := 1883) (i := 3) dL_law__1883 rfl rfl ?_
        refine m_ic (pc := 1884) (v := 0) dL_law__1884 rfl ?_
        refine m_la (pc := 1885) dL_law__1885 a_560 (vp_in_nI (n := 0) (by omega) (by decide)) ?_
        refine m_nl (v' := v1.toInt64) (uJ_s) ?_
        refine s_iload (pc := 1886) (i := 6) dL_law__1886 rfl ?_
        refine s_i2l (pc := 1888) dL_law__1888 ?_
        refine s_lcmp (pc := 1889) dL_law__1889 ?_
        refine m_nm (v' := 0) (lg_cc) ?_
        refine s_ifeq (pc := 1890) (tgt := 1895) dL_law__1890 rfl (fun h1890 => ?_) (fun h1890 => absurd h1890 (by decide))
        refine s_goto (pc := 1895) (tgt := 2692) dL_law__1895 rfl ?_
        exact hK x1 I2 _ n w _ _ _ _ hg1 (cI_m hg1 hc1 f2) hm2 (by omega) (by omega)
  · obtain ⟨c1, ec1, nc1⟩ := hA k1 e1
    refine ⟨c1, ec1, kt_s ?_⟩
    refine s_istore (pc := 1841) (i := 5) dL_law__1841 (Nat.le_of_ble_eq_true rfl) ?_
    dsimp only [List.set, List.filter]
    refine s_aload_n (pc := 1843) (i := 2) dL_law__1843 rfl rfl ?_
    refine s_aload_n (pc := 1844) (i := 0) dL_law__1844 rfl rfl ?_
    refine s_iload (pc := 1845) (i := 4) dL_law__1845 rfl ?_
    refine m_ic (pc := 1847) (v := 1) dL_law__1847 rfl ?_
    refine s_iadd (pc := 1848) dL_law__1848 ?_
    refine m_nm (v' := nI ((10 * q) + 1)) (nI_add (10 * q) 1) ?_
    refine s_sld (pc := 1849) dL_law__1849 (vp_in_nI (n := (10 * q) + 1) (by omega) (by omega)) ?_
    refine m_nm (v' := gx g (10 * q + 1)) (rdX (by omega)) ?_
    refine s_aload_n (pc := 1850) (i := 0) dL_law__1850 rfl rfl ?_
    refine s_iload (pc := 1851) (i := 4) dL_law__1851 rfl ?_
    refine m_ic (pc := 1853) (v := 2) dL_law__1853 rfl ?_
    refine s_iadd (pc := 1854) dL_law__1854 ?_
    refine m_nm (v' := nI ((10 * q) + 2)) (nI_add (10 * q) 2) ?_
    refine s_sld (pc := 1855) dL_law__1855 (vp_in_nI (n := (10 * q) + 2) (by omega) (by omega)) ?_
    refine m_nm (v' := gx g (10 * q + 2)) (rdX (by omega)) ?_
    refine s_aload_n (pc := 1856) (i := 0) dL_law__1856 rfl rfl ?_
    refine s_iload (pc := 1857) (i := 4) dL_law__1857 rfl ?_
    refine m_ic (pc := 1859) (v := 3) dL_law__1859 rfl ?_
    refine s_iadd (pc := 1860) dL_law__1860 ?_
    refine m_nm (v' := nI ((10 * q) + 3)) (nI_add (10 * q) 3) ?_
    refine s_sld (pc := 1861) dL_law__1861 (vp_in_nI (n := (10 * q) + 3) (by omega) (by omega)) ?_
    refine m_nm (v' := gx g (10 * q + 3)) (rdX (by omega)) ?_
    refine m_v3 (pc := 1862) dL_law__1862 lk_L_215 ok_X12_balm (rcO o_534 (by decide) rfl) rfl rfl (hM g (d + 36) I1 J (n + 1) (w + 6) _ (mI_c hm f1) (fun v2 I2 e2 _ _ _ => (by rw [e1] at e2; cases e2)) (fun k2 I2 e2 hm2 f2 h0 => kt_s ?_))
    · have ek : k1 = k2 := by rw [e1] at e2; cases e2; rfl
      subst ek
      have h0 : I2 534 0 = c1 := h0.trans (by rw [ec1]; rfl)
      refine s_istore (pc := 1865) (i := 6) dL_law__1865 (Nat.le_of_ble_eq_true rfl) ?_
      dsimp only [List.set, List.filter]
      refine s_aload_n (pc := 1867) (i := 2) dL_law__1867 rfl rfl ?_
      refine m_v0 (pc := 1868) dL_law__1868 lk_L_134 ok_X12_thrown (rcO o_534 (by decide) rfl) rfl rfl (c_X12_thrown h0 (kt_s ?_))
      refine s_iload (pc := 1871) (i := 5) dL_law__1871 rfl ?_
      refine s_iceq (pc := 1873) (tgt := 1878) dL_law__1873 rfl (fun h1873 => ?_) (fun h1873 => absurd (rfl) h1873)
      refine s_iload (pc := 1878) (i := 5) dL_law__1878 rfl ?_
      refine s_ifne (pc := 1880) (tgt := 1895) dL_law__1880 rfl (fun h1880 => ?_) (fun h1880 => absurd h1880 (nc1))
      refine s_goto (pc := 1895) (tgt := 2692) dL_law__1895 rfl ?_
      exact hK x1 I2 J (n + 1) (w + 6) _ _ _ _ hg1 (cI_m hg1 hc1 f2) hm2 (by omega) (by omega)
theorem lw_26 {x : gX} {q : Nat} {v5 v6 v7 : Value} (hN : aNx g) (hL : 10 * q + 10 ≤ gL g) (hL2 : gL g ≤ 5120) (hx : gOk x) (hc : cI x I) (hm : mI x I) (hn : n + 1 ≤ 600000 ∧ w + 6 ≤ 7000000) (hK : ∀ (x' : gX) (I' : Nat → Nat → Int32) (J' : Nat → Nat → Int64) (n' w' : Nat) (v5 v6 v7 : Value) (ll : List (Nat × Int64)), gOk x' → cI x' I' → mI x' I' → n' ≤ n + 1 → w' ≤ w + 6 → Rn g (d + 40) mL_law_ 2692 [.ref 0, .ref 1, .ref 534, .ref 560, .int (nI (10 * q)), v5, v6, v7] ll [] (Z I' J' n' w') Q) : Rn g (d + 40) mL_law_ 1898 [.ref 0, .ref 1, .ref 534, .ref 560, .int (nI (10 * q)), v5, v6, v7] [] [] (Z I J n w) Q := by
  obtain ⟨x1, A1, hg1, hA, hC, hM⟩ := pr_weariest (x := gx g (10 * q + 1)) hx
  refine s_aload_n (pc := 1898) (i := 1) dL_law__1898 rfl rfl ?_
  refine s_aload_n (pc := 1899) (i := 0) dL_law__1899 rfl rfl ?_
  refine s_iload (pc := 1900) (i := 4) dL_law__1900 rfl ?_
  refine m_ic (pc := 1902) (v := 1) dL_law__1902 rfl ?_
  refine s_iadd (pc := 1903) dL_law__1903 ?_
  refine m_nm (v' := nI ((10 * q) + 1)) (nI_add (10 * q) 1) ?_
  refine s_sld (pc := 1904) dL_law__1904 (vp_in_nI (n := (10 * q) + 1) (by omega) (by omega)) ?_
  refine m_nm (v' := gx g (10 * q + 1)) (rdX (by omega)) ?_
  refine s_aload_n (pc := 1905) (i := 3) dL_law__1905 rfl rfl ?_
  refine m_h3 (y' := mL_weariest) (pc := 1906) dL_law__1906 ml_L_216 ok_L_weariest sa_L_weariest rfl rfl (c_L_weariest hN (hC g (d + 30) I J n w _ hc hn (fun v1 I1 e1 hc1 f1 => ⟨I1, J, n, w, rfl, kt_s ?_⟩) (fun k1 I1 e1 hc1 f1 => ?_)))
  · refine s_istore (pc := 1909) (i := 5) dL_law__1909 (Nat.le_of_ble_eq_true rfl) ?_
    dsimp only [List.set, List.filter]
    refine s_aload_n (pc := 1911) (i := 2) dL_law__1911 rfl rfl ?_
    refine s_aload_n (pc := 1912) (i := 0) dL_law__1912 rfl rfl ?_
    refine s_iload (pc := 1913) (i := 4) dL_law__1913 rfl ?_
    refine m_ic (pc := 1915) (v := 1) dL_law__1915 rfl ?_
    refine s_iadd (pc := 1916) dL_law__1916 ?_
    refine m_nm (v' := nI ((10 * q) + 1)) (nI_add (10 * q) 1) ?_
    refine s_sld (pc := 1917) dL_law__1917 (vp_in_nI (n := (10 * q) + 1) (by omega) (by omega)) ?_
    refine m_nm (v' := gx g (10 * q + 1)) (rdX (by omega)) ?_
    refine m_v1 (pc := 1918) dL_law__1918 lk_L_218 ok_X12_weariest (rcO o_534 (by decide) rfl) rfl rfl (hM g (d + 37) I1 (upJ J 560 0 v1.toInt64) n w _ (mI_c hm f1) (fun v2 I2 e2 hm2 f2 h0 => kt_s ?_) (fun k2 I2 e2 _ _ _ => (by rw [e1] at e2; cases e2)))
    · have ev : v1 = v2 := by rw [e1] at e2; cases e2; rfl
      subst ev
      refine s_istore (pc := 1921) (i := 6) dL_law__1921 (Nat.le_of_ble_eq_true rfl) ?_
      dsimp only [List.set, List.filter]
      refine s_aload_n (pc := 1923) (i := 2) dL_law__1923 rfl rfl ?_
      refine m_v0 (pc := 1924) dL_law__1924 lk_L_134 ok_X12_thrown (rcO o_534 (by decide) rfl) rfl rfl (c_X12_thrown h0 (kt_s ?_))
      · refine s_iload (pc := 1927) (i := 5) dL_law__1927 rfl ?_
        refine s_iceq (pc := 1929) (tgt := 1934) dL_law__1929 rfl (fun h1929 => ?_) (fun h1929 => absurd h1929 (by decide))
        refine s_iload (pc := 1934) (i := 5) dL_law__1934 rfl ?_
        refine s_ifne (pc := 1936) (tgt := 1951) dL_law__1936 rfl (fun h1936 => absurd h1936 (by decide)) (fun h1936 => ?_)
        refine s_aload_n (pc := 1939) (i := 3) dL_law__1939 rfl rfl ?_
        refine m_ic (pc := 1940) (v := 0) dL_law__1940 rfl ?_
        refine m_la (pc := 1941) dL_law__1941 a_560 (vp_in_nI (n := 0) (by omega) (by decide)) ?_
        refine m_nl (v' := v1.toInt64) (uJ_s) ?_
        refine s_iload (pc := 1942) (i := 6) dL_law__1942 rfl ?_
        refine s_i2l (pc := 1944) dL_law__1944 ?_
        refine s_lcmp (pc := 1945) dL_law__1945 ?_
        refine m_nm (v' := 0) (lg_cc) ?_
        refine s_ifeq (pc := 1946) (tgt := 1951) dL_law__1946 rfl (fun h1946 => ?_) (fun h1946 => absurd h1946 (by decide))
        refine s_goto (pc := 1951) (tgt := 2692) dL_law__1951 rfl ?_
        exact hK x1 I2 _ n w _ _ _ _ hg1 (cI_m hg1 hc1 f2) hm2 (by omega) (by omega)
  · obtain ⟨c1, ec1, nc1⟩ := hA k1 e1
    refine ⟨c1, ec1, kt_s ?_⟩
    refine s_istore (pc := 1909) (i := 5) dL_law__1909 (Nat.le_of_ble_eq_true rfl) ?_
    dsimp only [List.set, List.filter]
    refine s_aload_n (pc := 1911) (i := 2) dL_law__1911 rfl rfl ?_
    refine s_aload_n (pc := 1912) (i := 0) dL_law__1912 rfl rfl ?_
    refine s_iload (pc := 1913) (i := 4) dL_law__1913 rfl ?_
    refine m_ic (pc := 1915) (v := 1) dL_law__1915 rfl ?_
    refine s_iadd (pc := 1916) dL_law__1916 ?_
    refine m_nm (v' := nI ((10 * q) + 1)) (nI_add (10 * q) 1) ?_
    refine s_sld (pc := 1917) dL_law__1917 (vp_in_nI (n := (10 * q) + 1) (by omega) (by omega)) ?_
    refine m_nm (v' := gx g (10 * q + 1)) (rdX (by omega)) ?_
    refine m_v1 (pc := 1918) dL_law__1918 lk_L_218 ok_X12_weariest (rcO o_534 (by decide) rfl) rfl rfl (hM g (d + 37) I1 J (n + 1) (w + 6) _ (mI_c hm f1) (fun v2 I2 e2 _ _ _ => (by rw [e1] at e2; cases e2)) (fun k2 I2 e2 hm2 f2 h0 => kt_s ?_))
    · have ek : k1 = k2 := by rw [e1] at e2; cases e2; rfl
      subst ek
      have h0 : I2 534 0 = c1 := h0.trans (by rw [ec1]; rfl)
      refine s_istore (pc := 1921) (i := 6) dL_law__1921 (Nat.le_of_ble_eq_true rfl) ?_
      dsimp only [List.set, List.filter]
      refine s_aload_n (pc := 1923) (i := 2) dL_law__1923 rfl rfl ?_
      refine m_v0 (pc := 1924) dL_law__1924 lk_L_134 ok_X12_thrown (rcO o_534 (by decide) rfl) rfl rfl (c_X12_thrown h0 (kt_s ?_))
      refine s_iload (pc := 1927) (i := 5) dL_law__1927 rfl ?_
      refine s_iceq (pc := 1929) (tgt := 1934) dL_law__1929 rfl (fun h1929 => ?_) (fun h1929 => absurd (rfl) h1929)
      refine s_iload (pc := 1934) (i := 5) dL_law__1934 rfl ?_
      refine s_ifne (pc := 1936) (tgt := 1951) dL_law__1936 rfl (fun h1936 => ?_) (fun h1936 => absurd h1936 (nc1))
      refine s_goto (pc := 1951) (tgt := 2692) dL_law__1951 rfl ?_
      exact hK x1 I2 J (n + 1) (w + 6) _ _ _ _ hg1 (cI_m hg1 hc1 f2) hm2 (by omega) (by omega)
theorem lw_27 {x : gX} {q : Nat} {v5 v6 v7 : Value} (hN : aNx g) (hL : 10 * q + 10 ≤ gL g) (hL2 : gL g ≤ 5120) (hx : gOk x) (hc : cI x I) (hm : mI x I) (hn : n + 1 ≤ 600000 ∧ w + 6 ≤ 7000000) (hK : ∀ (x' : gX) (I' : Nat → Nat → Int32) (J' : Nat → Nat → Int64) (n' w' : Nat) (v5 v6 v7 : Value) (ll : List (Nat × Int64)), gOk x' → cI x' I' → mI x' I' → n' ≤ n + 1 → w' ≤ w + 6 → Rn g (d + 40) mL_law_ 2692 [.ref 0, .ref 1, .ref 534, .ref 560, .int (nI (10 * q)), v5, v6, v7] ll [] (Z I' J' n' w') Q) : Rn g (d + 40) mL_law_ 1954 [.ref 0, .ref 1, .ref 534, .ref 560, .int (nI (10 * q)), v5, v6, v7] [] [] (Z I J n w) Q := by
  obtain ⟨x1, A1, hg1, hA, hC, hM⟩ := pr_heaviest (x := gx g (10 * q + 1)) (y := gx g (10 * q + 2)) hx
  refine s_aload_n (pc := 1954) (i := 1) dL_law__1954 rfl rfl ?_
  refine s_aload_n (pc := 1955) (i := 0) dL_law__1955 rfl rfl ?_
  refine s_iload (pc := 1956) (i := 4) dL_law__1956 rfl ?_
  refine m_ic (pc := 1958) (v := 1) dL_law__1958 rfl ?_
  refine s_iadd (pc := 1959) dL_law__1959 ?_
  refine m_nm (v' := nI ((10 * q) + 1)) (nI_add (10 * q) 1) ?_
  refine s_sld (pc := 1960) dL_law__1960 (vp_in_nI (n := (10 * q) + 1) (by omega) (by omega)) ?_
  refine m_nm (v' := gx g (10 * q + 1)) (rdX (by omega)) ?_
  refine s_aload_n (pc := 1961) (i := 0) dL_law__1961 rfl rfl ?_
  refine s_iload (pc := 1962) (i := 4) dL_law__1962 rfl ?_
  refine m_ic (pc := 1964) (v := 2) dL_law__1964 rfl ?_
  refine s_iadd (pc := 1965) dL_law__1965 ?_
  refine m_nm (v' := nI ((10 * q) + 2)) (nI_add (10 * q) 2) ?_
  refine s_sld (pc := 1966) dL_law__1966 (vp_in_nI (n := (10 * q) + 2) (by omega) (by omega)) ?_
  refine m_nm (v' := gx g (10 * q + 2)) (rdX (by omega)) ?_
  refine s_aload_n (pc := 1967) (i := 3) dL_law__1967 rfl rfl ?_
  refine m_h4 (y' := mL_heaviest) (pc := 1968) dL_law__1968 ml_L_219 ok_L_heaviest sa_L_heaviest rfl rfl (c_L_heaviest hN (hC g (d + 30) I J n w _ hc hn (fun v1 I1 e1 hc1 f1 => ⟨I1, J, n, w, rfl, kt_s ?_⟩) (fun k1 I1 e1 hc1 f1 => ?_)))
  · refine s_istore (pc := 1971) (i := 5) dL_law__1971 (Nat.le_of_ble_eq_true rfl) ?_
    dsimp only [List.set, List.filter]
    refine s_aload_n (pc := 1973) (i := 2) dL_law__1973 rfl rfl ?_
    refine s_aload_n (pc := 1974) (i := 0) dL_law__1974 rfl rfl ?_
    refine s_iload (pc := 1975) (i := 4) dL_law__1975 rfl ?_
    refine m_ic (pc := 1977) (v := 1) dL_law__1977 rfl ?_
    refine s_iadd (pc := 1978) dL_law__1978 ?_
    refine m_nm (v' := nI ((10 * q) + 1)) (nI_add (10 * q) 1) ?_
    refine s_sld (pc := 1979) dL_law__1979 (vp_in_nI (n := (10 * q) + 1) (by omega) (by omega)) ?_
    refine m_nm (v' := gx g (10 * q + 1)) (rdX (by omega)) ?_
    refine s_aload_n (pc := 1980) (i := 0) dL_law__1980 rfl rfl ?_
    refine s_iload (pc := 1981) (i := 4) dL_law__1981 rfl ?_
    refine m_ic (pc := 1983) (v := 2) dL_law__1983 rfl ?_
    refine s_iadd (pc := 1984) dL_law__1984 ?_
    refine m_nm (v' := nI ((10 * q) + 2)) (nI_add (10 * q) 2) ?_
    refine s_sld (pc := 1985) dL_law__1985 (vp_in_nI (n := (10 * q) + 2) (by omega) (by omega)) ?_
    refine m_nm (v' := gx g (10 * q + 2)) (rdX (by omega)) ?_
    refine m_v2 (pc := 1986) dL_law__1986 lk_L_221 ok_X12_heaviest (rcO o_534 (by decide) rfl) rfl rfl (hM g (d + 32) I1 (upJ J 560 0 v1.toInt64) n w _ (mI_c hm f1) (fun v2 I2 e2 hm2 f2 h0 => kt_s ?_) (fun k2 I2 e2 _ _ _ => (by rw [e1] at e2; cases e2)))
    · have ev : v1 = v2 := by rw [e1] at e2; cases e2; rfl
      subst ev
      refine s_istore (pc := 1989) (i := 6) dL_law__1989 (Nat.le_of_ble_eq_true rfl) ?_
      dsimp only [List.set, List.filter]
      refine s_aload_n (pc := 1991) (i := 2) dL_law__1991 rfl rfl ?_
      refine m_v0 (pc := 1992) dL_law__1992 lk_L_134 ok_X12_thrown (rcO o_534 (by decide) rfl) rfl rfl (c_X12_thrown h0 (kt_s ?_))
      · refine s_iload (pc := 1995) (i := 5) dL_law__1995 rfl ?_
        refine s_iceq (pc := 1997) (tgt := 2002) dL_law__1997 rfl (fun h1997 => ?_) (fun h1997 => absurd h1997 (by decide))
        refine s_iload (pc := 2002) (i := 5) dL_law__2002 rfl ?_
        refine s_ifne (pc := 2004) (tgt := 2019) dL_law__2004 rfl (fun h2004 => absurd h2004 (by decide)) (fun h2004 => ?_)
        refine s_aload_n (pc := 2007) (i := 3) dL_law__2007 rfl rfl ?_
        refine m_ic (pc := 2008) (v := 0) dL_law__2008 rfl ?_
        refine m_la (pc := 2009) dL_law__2009 a_560 (vp_in_nI (n := 0) (by omega) (by decide)) ?_
        refine m_nl (v' := v1.toInt64) (uJ_s) ?_
        refine s_iload (pc := 2010) (i := 6) dL_law__2010 rfl ?_
        refine s_i2l (pc := 2012) dL_law__2012 ?_
        refine s_lcmp (pc := 2013) dL_law__2013 ?_
        refine m_nm (v' := 0) (lg_cc) ?_
        refine s_ifeq (pc := 2014) (tgt := 2019) dL_law__2014 rfl (fun h2014 => ?_) (fun h2014 => absurd h2014 (by decide))
        refine s_goto (pc := 2019) (tgt := 2692) dL_law__2019 rfl ?_
        exact hK x1 I2 _ n w _ _ _ _ hg1 (cI_m hg1 hc1 f2) hm2 (by omega) (by omega)
  · obtain ⟨c1, ec1, nc1⟩ := hA k1 e1
    refine ⟨c1, ec1, kt_s ?_⟩
    refine s_istore (pc := 1971) (i := 5) dL_law__1971 (Nat.le_of_ble_eq_true rfl) ?_
    dsimp only [List.set, List.filter]
    refine s_aload_n (pc := 1973) (i := 2) dL_law__1973 rfl rfl ?_
    refine s_aload_n (pc := 1974) (i := 0) dL_law__1974 rfl rfl ?_
    refine s_iload (pc := 1975) (i := 4) dL_law__1975 rfl ?_
    refine m_ic (pc := 1977) (v := 1) dL_law__1977 rfl ?_
    refine s_iadd (pc := 1978) dL_law__1978 ?_
    refine m_nm (v' := nI ((10 * q) + 1)) (nI_add (10 * q) 1) ?_
    refine s_sld (pc := 1979) dL_law__1979 (vp_in_nI (n := (10 * q) + 1) (by omega) (by omega)) ?_
    refine m_nm (v' := gx g (10 * q + 1)) (rdX (by omega)) ?_
    refine s_aload_n (pc := 1980) (i := 0) dL_law__1980 rfl rfl ?_
    refine s_iload (pc := 1981) (i := 4) dL_law__1981 rfl ?_
    refine m_ic (pc := 1983) (v := 2) dL_law__1983 rfl ?_
    refine s_iadd (pc := 1984) dL_law__1984 ?_
    refine m_nm (v' := nI ((10 * q) + 2)) (nI_add (10 * q) 2) ?_
    refine s_sld (pc := 1985) dL_law__1985 (vp_in_nI (n := (10 * q) + 2) (by omega) (by omega)) ?_
    refine m_nm (v' := gx g (10 * q + 2)) (rdX (by omega)) ?_
    refine m_v2 (pc := 1986) dL_law__1986 lk_L_221 ok_X12_heaviest (rcO o_534 (by decide) rfl) rfl rfl (hM g (d + 32) I1 J (n + 1) (w + 6) _ (mI_c hm f1) (fun v2 I2 e2 _ _ _ => (by rw [e1] at e2; cases e2)) (fun k2 I2 e2 hm2 f2 h0 => kt_s ?_))
    · have ek : k1 = k2 := by rw [e1] at e2; cases e2; rfl
      subst ek
      have h0 : I2 534 0 = c1 := h0.trans (by rw [ec1]; rfl)
      refine s_istore (pc := 1989) (i := 6) dL_law__1989 (Nat.le_of_ble_eq_true rfl) ?_
      dsimp only [List.set, List.filter]
      refine s_aload_n (pc := 1991) (i := 2) dL_law__1991 rfl rfl ?_
      refine m_v0 (pc := 1992) dL_law__1992 lk_L_134 ok_X12_thrown (rcO o_534 (by decide) rfl) rfl rfl (c_X12_thrown h0 (kt_s ?_))
      refine s_iload (pc := 1995) (i := 5) dL_law__1995 rfl ?_
      refine s_iceq (pc := 1997) (tgt := 2002) dL_law__1997 rfl (fun h1997 => ?_) (fun h1997 => absurd (rfl) h1997)
      refine s_iload (pc := 2002) (i := 5) dL_law__2002 rfl ?_
      refine s_ifne (pc := 2004) (tgt := 2019) dL_law__2004 rfl (fun h2004 => ?_) (fun h2004 => absurd h2004 (nc1))
      refine s_goto (pc := 2019) (tgt := 2692) dL_law__2019 rfl ?_
      exact hK x1 I2 J (n + 1) (w + 6) _ _ _ _ hg1 (cI_m hg1 hc1 f2) hm2 (by omega) (by omega)
theorem lw_28 {x : gX} {q : Nat} {v5 v6 v7 : Value} (hN : aNx g) (hL : 10 * q + 10 ≤ gL g) (hL2 : gL g ≤ 5120) (hx : gOk x) (hc : cI x I) (hm : mI x I) (hn : n + 1 ≤ 600000 ∧ w + 6 ≤ 7000000) (hK : ∀ (x' : gX) (I' : Nat → Nat → Int32) (J' : Nat → Nat → Int64) (n' w' : Nat) (v5 v6 v7 : Value) (ll : List (Nat × Int64)), gOk x' → cI x' I' → mI x' I' → n' ≤ n + 1 → w' ≤ w + 6 → Rn g (d + 40) mL_law_ 2692 [.ref 0, .ref 1, .ref 534, .ref 560, .int (nI (10 * q)), v5, v6, v7] ll [] (Z I' J' n' w') Q) : Rn g (d + 40) mL_law_ 2022 [.ref 0, .ref 1, .ref 534, .ref 560, .int (nI (10 * q)), v5, v6, v7] [] [] (Z I J n w) Q := by
  obtain ⟨x1, A1, hg1, hA, hC, hM⟩ := pr_listeners (x := gx g (10 * q + 1)) hx
  refine s_aload_n (pc := 2022) (i := 1) dL_law__2022 rfl rfl ?_
  refine s_aload_n (pc := 2023) (i := 0) dL_law__2023 rfl rfl ?_
  refine s_iload (pc := 2024) (i := 4) dL_law__2024 rfl ?_
  refine m_ic (pc := 2026) (v := 1) dL_law__2026 rfl ?_
  refine s_iadd (pc := 2027) dL_law__2027 ?_
  refine m_nm (v' := nI ((10 * q) + 1)) (nI_add (10 * q) 1) ?_
  refine s_sld (pc := 2028) dL_law__2028 (vp_in_nI (n := (10 * q) + 1) (by omega) (by omega)) ?_
  refine m_nm (v' := gx g (10 * q + 1)) (rdX (by omega)) ?_
  refine s_aload_n (pc := 2029) (i := 3) dL_law__2029 rfl rfl ?_
  refine m_h3 (y' := mL_listeners) (pc := 2030) dL_law__2030 ml_L_222 ok_L_listeners sa_L_listeners rfl rfl (c_L_listeners hN (hC g (d + 30) I J n w _ hc hn (fun v1 I1 e1 hc1 f1 => ⟨I1, J, n, w, rfl, kt_s ?_⟩) (fun k1 I1 e1 hc1 f1 => ?_)))
  · refine s_istore (pc := 2033) (i := 5) dL_law__2033 (Nat.le_of_ble_eq_true rfl) ?_
    dsimp only [List.set, List.filter]
    refine s_aload_n (pc := 2035) (i := 2) dL_law__2035 rfl rfl ?_
    refine s_aload_n (pc := 2036) (i := 0) dL_law__2036 rfl rfl ?_
    refine s_iload (pc := 2037) (i := 4) dL_law__2037 rfl ?_
    refine m_ic (pc := 2039) (v := 1) dL_law__2039 rfl ?_
    refine s_iadd (pc := 2040) dL_law__2040 ?_
    refine m_nm (v' := nI ((10 * q) + 1)) (nI_add (10 * q) 1) ?_
    refine s_sld (pc := 2041) dL_law__2041 (vp_in_nI (n := (10 * q) + 1) (by omega) (by omega)) ?_
    refine m_nm (v' := gx g (10 * q + 1)) (rdX (by omega)) ?_
    refine m_v1 (pc := 2042) dL_law__2042 lk_L_224 ok_X12_listeners (rcO o_534 (by decide) rfl) rfl rfl (hM g (d + 36) I1 (upJ J 560 0 v1.toInt64) n w _ (mI_c hm f1) (fun v2 I2 e2 hm2 f2 h0 => kt_s ?_) (fun k2 I2 e2 _ _ _ => (by rw [e1] at e2; cases e2)))
    · have ev : v1 = v2 := by rw [e1] at e2; cases e2; rfl
      subst ev
      refine s_istore (pc := 2045) (i := 6) dL_law__2045 (Nat.le_of_ble_eq_true rfl) ?_
      dsimp only [List.set, List.filter]
      refine s_aload_n (pc := 2047) (i := 2) dL_law__2047 rfl rfl ?_
      refine m_v0 (pc := 2048) dL_law__2048 lk_L_134 ok_X12_thrown (rcO o_534 (by decide) rfl) rfl rfl (c_X12_thrown h0 (kt_s ?_))
      · refine s_iload (pc := 2051) (i := 5) dL_law__2051 rfl ?_
        refine s_iceq (pc := 2053) (tgt := 2058) dL_law__2053 rfl (fun h2053 => ?_) (fun h2053 => absurd h2053 (by decide))
        refine s_iload (pc := 2058) (i := 5) dL_law__2058 rfl ?_
        refine s_ifne (pc := 2060) (tgt := 2075) dL_law__2060 rfl (fun h2060 => absurd h2060 (by decide)) (fun h2060 => ?_)
        refine s_aload_n (pc := 2063) (i := 3) dL_law__2063 rfl rfl ?_
        refine m_ic (pc := 2064) (v := 0) dL_law__2064 rfl ?_
        refine m_la (pc := 2065) dL_law__2065 a_560 (vp_in_nI (n := 0) (by omega) (by decide)) ?_
        refine m_nl (v' := v1.toInt64) (uJ_s) ?_
        refine s_iload (pc := 2066) (i := 6) dL_law__2066 rfl ?_
        refine s_i2l (pc := 2068) dL_law__2068 ?_
        refine s_lcmp (pc := 2069) dL_law__2069 ?_
        refine m_nm (v' := 0) (lg_cc) ?_
        refine s_ifeq (pc := 2070) (tgt := 2075) dL_law__2070 rfl (fun h2070 => ?_) (fun h2070 => absurd h2070 (by decide))
        refine s_goto (pc := 2075) (tgt := 2692) dL_law__2075 rfl ?_
        exact hK x1 I2 _ n w _ _ _ _ hg1 (cI_m hg1 hc1 f2) hm2 (by omega) (by omega)
  · obtain ⟨c1, ec1, nc1⟩ := hA k1 e1
    refine ⟨c1, ec1, kt_s ?_⟩
    refine s_istore (pc := 2033) (i := 5) dL_law__2033 (Nat.le_of_ble_eq_true rfl) ?_
    dsimp only [List.set, List.filter]
    refine s_aload_n (pc := 2035) (i := 2) dL_law__2035 rfl rfl ?_
    refine s_aload_n (pc := 2036) (i := 0) dL_law__2036 rfl rfl ?_
    refine s_iload (pc := 2037) (i := 4) dL_law__2037 rfl ?_
    refine m_ic (pc := 2039) (v := 1) dL_law__2039 rfl ?_
    refine s_iadd (pc := 2040) dL_law__2040 ?_
    refine m_nm (v' := nI ((10 * q) + 1)) (nI_add (10 * q) 1) ?_
    refine s_sld (pc := 2041) dL_law__2041 (vp_in_nI (n := (10 * q) + 1) (by omega) (by omega)) ?_
    refine m_nm (v' := gx g (10 * q + 1)) (rdX (by omega)) ?_
    refine m_v1 (pc := 2042) dL_law__2042 lk_L_224 ok_X12_listeners (rcO o_534 (by decide) rfl) rfl rfl (hM g (d + 36) I1 J (n + 1) (w + 6) _ (mI_c hm f1) (fun v2 I2 e2 _ _ _ => (by rw [e1] at e2; cases e2)) (fun k2 I2 e2 hm2 f2 h0 => kt_s ?_))
    · have ek : k1 = k2 := by rw [e1] at e2; cases e2; rfl
      subst ek
      have h0 : I2 534 0 = c1 := h0.trans (by rw [ec1]; rfl)
      refine s_istore (pc := 2045) (i := 6) dL_law__2045 (Nat.le_of_ble_eq_true rfl) ?_
      dsimp only [List.set, List.filter]
      refine s_aload_n (pc := 2047) (i := 2) dL_law__2047 rfl rfl ?_
      refine m_v0 (pc := 2048) dL_law__2048 lk_L_134 ok_X12_thrown (rcO o_534 (by decide) rfl) rfl rfl (c_X12_thrown h0 (kt_s ?_))
      refine s_iload (pc := 2051) (i := 5) dL_law__2051 rfl ?_
      refine s_iceq (pc := 2053) (tgt := 2058) dL_law__2053 rfl (fun h2053 => ?_) (fun h2053 => absurd (rfl) h2053)
      refine s_iload (pc := 2058) (i := 5) dL_law__2058 rfl ?_
      refine s_ifne (pc := 2060) (tgt := 2075) dL_law__2060 rfl (fun h2060 => ?_) (fun h2060 => absurd h2060 (nc1))
      refine s_goto (pc := 2075) (tgt := 2692) dL_law__2075 rfl ?_
      exact hK x1 I2 J (n + 1) (w + 6) _ _ _ _ hg1 (cI_m hg1 hc1 f2) hm2 (by omega) (by omega)
theorem lw_29 {x : gX} {q : Nat} {v5 v6 v7 : Value} (hN : aNx g) (hL : 10 * q + 10 ≤ gL g) (hL2 : gL g ≤ 5120) (hx : gOk x) (hc : cI x I) (hm : mI x I) (hn : n + 1 ≤ 600000 ∧ w + 6 ≤ 7000000) (hK : ∀ (x' : gX) (I' : Nat → Nat → Int32) (J' : Nat → Nat → Int64) (n' w' : Nat) (v5 v6 v7 : Value) (ll : List (Nat × Int64)), gOk x' → cI x' I' → mI x' I' → n' ≤ n + 1 → w' ≤ w + 6 → Rn g (d + 40) mL_law_ 2692 [.ref 0, .ref 1, .ref 534, .ref 560, .int (nI (10 * q)), v5, v6, v7] ll [] (Z I' J' n' w') Q) : Rn g (d + 40) mL_law_ 2078 [.ref 0, .ref 1, .ref 534, .ref 560, .int (nI (10 * q)), v5, v6, v7] [] [] (Z I J n w) Q := by
  obtain ⟨x1, A1, hg1, hA, hC, hM⟩ := pr_ready (x := gx g (10 * q + 1)) (y := gx g (10 * q + 2)) hx
  refine s_aload_n (pc := 2078) (i := 1) dL_law__2078 rfl rfl ?_
  refine s_aload_n (pc := 2079) (i := 0) dL_law__2079 rfl rfl ?_
  refine s_iload (pc := 2080) (i := 4) dL_law__2080 rfl ?_
  refine m_ic (pc := 2082) (v := 1) dL_law__2082 rfl ?_
  refine s_iadd (pc := 2083) dL_law__2083 ?_
  refine m_nm (v' := nI ((10 * q) + 1)) (nI_add (10 * q) 1) ?_
  refine s_sld (pc := 2084) dL_law__2084 (vp_in_nI (n := (10 * q) + 1) (by omega) (by omega)) ?_
  refine m_nm (v' := gx g (10 * q + 1)) (rdX (by omega)) ?_
  refine s_aload_n (pc := 2085) (i := 0) dL_law__2085 rfl rfl ?_
  refine s_iload (pc := 2086) (i := 4) dL_law__2086 rfl ?_
  refine m_ic (pc := 2088) (v := 2) dL_law__2088 rfl ?_
  refine s_iadd (pc := 2089) dL_law__2089 ?_
  refine m_nm (v' := nI ((10 * q) + 2)) (nI_add (10 * q) 2) ?_
  refine s_sld (pc := 2090) dL_law__2090 (vp_in_nI (n := (10 * q) + 2) (by omega) (by omega)) ?_
  refine m_nm (v' := gx g (10 * q + 2)) (rdX (by omega)) ?_
  refine s_aload_n (pc := 2091) (i := 3) dL_law__2091 rfl rfl ?_
  refine m_h4 (y' := mL_ready) (pc := 2092) dL_law__2092 ml_L_225 ok_L_ready sa_L_ready rfl rfl (c_L_ready hN (hC g (d + 30) I J n w _ hc hn (fun v1 I1 e1 hc1 f1 => ⟨I1, J, n, w, rfl, kt_s ?_⟩) (fun k1 I1 e1 hc1 f1 => ?_)))
  · refine s_istore (pc := 2095) (i := 5) dL_law__2095 (Nat.le_of_ble_eq_true rfl) ?_
    dsimp only [List.set, List.filter]
    refine s_aload_n (pc := 2097) (i := 2) dL_law__2097 rfl rfl ?_
    refine s_aload_n (pc := 2098) (i := 0) dL_law__2098 rfl rfl ?_
    refine s_iload (pc := 2099) (i := 4) dL_law__2099 rfl ?_
    refine m_ic (pc := 2101) (v := 1) dL_law__2101 rfl ?_
    refine s_iadd (pc := 2102) dL_law__2102 ?_
    refine m_nm (v' := nI ((10 * q) + 1)) (nI_add (10 * q) 1) ?_
    refine s_sld (pc := 2103) dL_law__2103 (vp_in_nI (n := (10 * q) + 1) (by omega) (by omega)) ?_
    refine m_nm (v' := gx g (10 * q + 1)) (rdX (by omega)) ?_
    refine s_aload_n (pc := 2104) (i := 0) dL_law__2104 rfl rfl ?_
    refine s_iload (pc := 2105) (i := 4) dL_law__2105 rfl ?_
    refine m_ic (pc := 2107) (v := 2) dL_law__2107 rfl ?_
    refine s_iadd (pc := 2108) dL_law__2108 ?_
    refine m_nm (v' := nI ((10 * q) + 2)) (nI_add (10 * q) 2) ?_
    refine s_sld (pc := 2109) dL_law__2109 (vp_in_nI (n := (10 * q) + 2) (by omega) (by omega)) ?_
    refine m_nm (v' := gx g (10 * q + 2)) (rdX (by omega)) ?_
    refine m_v2 (pc := 2110) dL_law__2110 lk_L_227 ok_X12_ready (rcO o_534 (by decide) rfl) rfl rfl (hM g (d + 32) I1 (upJ J 560 0 v1.toInt64) n w _ (mI_c hm f1) (fun v2 I2 e2 hm2 f2 h0 => kt_s ?_) (fun k2 I2 e2 _ _ _ => (by rw [e1] at e2; cases e2)))
    · have ev : v1 = v2 := by rw [e1] at e2; cases e2; rfl
      subst ev
      refine s_istore (pc := 2113) (i := 6) dL_law__2113 (Nat.le_of_ble_eq_true rfl) ?_
      dsimp only [List.set, List.filter]
      refine s_aload_n (pc := 2115) (i := 2) dL_law__2115 rfl rfl ?_
      refine m_v0 (pc := 2116) dL_law__2116 lk_L_134 ok_X12_thrown (rcO o_534 (by decide) rfl) rfl rfl (c_X12_thrown h0 (kt_s ?_))
      · refine s_iload (pc := 2119) (i := 5) dL_law__2119 rfl ?_
        refine s_iceq (pc := 2121) (tgt := 2126) dL_law__2121 rfl (fun h2121 => ?_) (fun h2121 => absurd h2121 (by decide))
        refine s_iload (pc := 2126) (i := 5) dL_law__2126 rfl ?_
        refine s_ifne (pc := 2128) (tgt := 2143) dL_law__2128 rfl (fun h2128 => absurd h2128 (by decide)) (fun h2128 => ?_)
        refine s_aload_n (pc := 2131) (i := 3) dL_law__2131 rfl rfl ?_
        refine m_ic (pc := 2132) (v := 0) dL_law__2132 rfl ?_
        refine m_la (pc := 2133) dL_law__2133 a_560 (vp_in_nI (n := 0) (by omega) (by decide)) ?_
        refine m_nl (v' := v1.toInt64) (uJ_s) ?_
        refine s_iload (pc := 2134) (i := 6) dL_law__2134 rfl ?_
        refine s_i2l (pc := 2136) dL_law__2136 ?_
        refine s_lcmp (pc := 2137) dL_law__2137 ?_
        refine m_nm (v' := 0) (lg_cc) ?_
        refine s_ifeq (pc := 2138) (tgt := 2143) dL_law__2138 rfl (fun h2138 => ?_) (fun h2138 => absurd h2138 (by decide))
        refine s_goto (pc := 2143) (tgt := 2692) dL_law__2143 rfl ?_
        exact hK x1 I2 _ n w _ _ _ _ hg1 (cI_m hg1 hc1 f2) hm2 (by omega) (by omega)
  · obtain ⟨c1, ec1, nc1⟩ := hA k1 e1
    refine ⟨c1, ec1, kt_s ?_⟩
    refine s_istore (pc := 2095) (i := 5) dL_law__2095 (Nat.le_of_ble_eq_true rfl) ?_
    dsimp only [List.set, List.filter]
    refine s_aload_n (pc := 2097) (i := 2) dL_law__2097 rfl rfl ?_
    refine s_aload_n (pc := 2098) (i := 0) dL_law__2098 rfl rfl ?_
    refine s_iload (pc := 2099) (i := 4) dL_law__2099 rfl ?_
    refine m_ic (pc := 2101) (v := 1) dL_law__2101 rfl ?_
    refine s_iadd (pc := 2102) dL_law__2102 ?_
    refine m_nm (v' := nI ((10 * q) + 1)) (nI_add (10 * q) 1) ?_
    refine s_sld (pc := 2103) dL_law__2103 (vp_in_nI (n := (10 * q) + 1) (by omega) (by omega)) ?_
    refine m_nm (v' := gx g (10 * q + 1)) (rdX (by omega)) ?_
    refine s_aload_n (pc := 2104) (i := 0) dL_law__2104 rfl rfl ?_
    refine s_iload (pc := 2105) (i := 4) dL_law__2105 rfl ?_
    refine m_ic (pc := 2107) (v := 2) dL_law__2107 rfl ?_
    refine s_iadd (pc := 2108) dL_law__2108 ?_
    refine m_nm (v' := nI ((10 * q) + 2)) (nI_add (10 * q) 2) ?_
    refine s_sld (pc := 2109) dL_law__2109 (vp_in_nI (n := (10 * q) + 2) (by omega) (by omega)) ?_
    refine m_nm (v' := gx g (10 * q + 2)) (rdX (by omega)) ?_
    refine m_v2 (pc := 2110) dL_law__2110 lk_L_227 ok_X12_ready (rcO o_534 (by decide) rfl) rfl rfl (hM g (d + 32) I1 J (n + 1) (w + 6) _ (mI_c hm f1) (fun v2 I2 e2 _ _ _ => (by rw [e1] at e2; cases e2)) (fun k2 I2 e2 hm2 f2 h0 => kt_s ?_))
    · have ek : k1 = k2 := by rw [e1] at e2; cases e2; rfl
      subst ek
      have h0 : I2 534 0 = c1 := h0.trans (by rw [ec1]; rfl)
      refine s_istore (pc := 2113) (i := 6) dL_law__2113 (Nat.le_of_ble_eq_true rfl) ?_
      dsimp only [List.set, List.filter]
      refine s_aload_n (pc := 2115) (i := 2) dL_law__2115 rfl rfl ?_
      refine m_v0 (pc := 2116) dL_law__2116 lk_L_134 ok_X12_thrown (rcO o_534 (by decide) rfl) rfl rfl (c_X12_thrown h0 (kt_s ?_))
      refine s_iload (pc := 2119) (i := 5) dL_law__2119 rfl ?_
      refine s_iceq (pc := 2121) (tgt := 2126) dL_law__2121 rfl (fun h2121 => ?_) (fun h2121 => absurd (rfl) h2121)
      refine s_iload (pc := 2126) (i := 5) dL_law__2126 rfl ?_
      refine s_ifne (pc := 2128) (tgt := 2143) dL_law__2128 rfl (fun h2128 => ?_) (fun h2128 => absurd h2128 (nc1))
      refine s_goto (pc := 2143) (tgt := 2692) dL_law__2143 rfl ?_
      exact hK x1 I2 J (n + 1) (w + 6) _ _ _ _ hg1 (cI_m hg1 hc1 f2) hm2 (by omega) (by omega)
theorem lw_30 {x : gX} {q : Nat} {v5 v6 v7 : Value} (hN : aNx g) (hL : 10 * q + 10 ≤ gL g) (hL2 : gL g ≤ 5120) (hx : gOk x) (hc : cI x I) (hm : mI x I) (hn : n + 1 ≤ 600000 ∧ w + 6 ≤ 7000000) (hK : ∀ (x' : gX) (I' : Nat → Nat → Int32) (J' : Nat → Nat → Int64) (n' w' : Nat) (v5 v6 v7 : Value) (ll : List (Nat × Int64)), gOk x' → cI x' I' → mI x' I' → n' ≤ n + 1 → w' ≤ w + 6 → Rn g (d + 40) mL_law_ 2692 [.ref 0, .ref 1, .ref 534, .ref 560, .int (nI (10 * q)), v5, v6, v7] ll [] (Z I' J' n' w') Q) : Rn g (d + 40) mL_law_ 2146 [.ref 0, .ref 1, .ref 534, .ref 560, .int (nI (10 * q)), v5, v6, v7] [] [] (Z I J n w) Q := by
  obtain ⟨x1, A1, hg1, hA, hC, hM⟩ := pr_sure (x := gx g (10 * q + 1)) (y := gx g (10 * q + 2)) hx
  refine s_aload_n (pc := 2146) (i := 1) dL_law__2146 rfl rfl ?_
  refine s_aload_n (pc := 2147) (i := 0) dL_law__2147 rfl rfl ?_
  refine s_iload (pc := 2148) (i := 4) dL_law__2148 rfl ?_
  refine m_ic (pc := 2150) (v := 1) dL_law__2150 rfl ?_
  refine s_iadd (pc := 2151) dL_law__2151 ?_
  refine m_nm (v' := nI ((10 * q) + 1)) (nI_add (10 * q) 1) ?_
  refine s_sld (pc := 2152) dL_law__2152 (vp_in_nI (n := (10 * q) + 1) (by omega) (by omega)) ?_
  refine m_nm (v' := gx g (10 * q + 1)) (rdX (by omega)) ?_
  refine s_aload_n (pc := 2153) (i := 0) dL_law__2153 rfl rfl ?_
  refine s_iload (pc := 2154) (i := 4) dL_law__2154 rfl ?_
  refine m_ic (pc := 2156) (v := 2) dL_law__2156 rfl ?_
  refine s_iadd (pc := 2157) dL_law__2157 ?_
  refine m_nm (v' := nI ((10 * q) + 2)) (nI_add (10 * q) 2) ?_
  refine s_sld (pc := 2158) dL_law__2158 (vp_in_nI (n := (10 * q) + 2) (by omega) (by omega)) ?_
  refine m_nm (v' := gx g (10 * q + 2)) (rdX (by omega)) ?_
  refine s_aload_n (pc := 2159) (i := 3) dL_law__2159 rfl rfl ?_
  refine m_h4 (y' := mL_sure) (pc := 2160) dL_law__2160 ml_L_228 ok_L_sure sa_L_sure rfl rfl (c_L_sure hN (hC g (d + 30) I J n w _ hc hn (fun v1 I1 e1 hc1 f1 => ⟨I1, J, n, w, rfl, kt_s ?_⟩) (fun k1 I1 e1 hc1 f1 => ?_)))
  · refine s_istore (pc := 2163) (i := 5) dL_law__2163 (Nat.le_of_ble_eq_true rfl) ?_
    dsimp only [List.set, List.filter]
    refine s_aload_n (pc := 2165) (i := 2) dL_law__2165 rfl rfl ?_
    refine s_aload_n (pc := 2166) (i := 0) dL_law__2166 rfl rfl ?_
    refine s_iload (pc := 2167) (i := 4) dL_law__2167 rfl ?_
    refine m_ic (pc := 2169) (v := 1) dL_law__2169 rfl ?_
    refine s_iadd (pc := 2170) dL_law__2170 ?_
    refine m_nm (v' := nI ((10 * q) + 1)) (nI_add (10 * q) 1) ?_
    refine s_sld (pc := 2171) dL_law__2171 (vp_in_nI (n := (10 * q) + 1) (by omega) (by omega)) ?_
    refine m_nm (v' := gx g (10 * q + 1)) (rdX (by omega)) ?_
    refine s_aload_n (pc := 2172) (i := 0) dL_law__2172 rfl rfl ?_
    refine s_iload (pc := 2173) (i := 4) dL_law__2173 rfl ?_
    refine m_ic (pc := 2175) (v := 2) dL_law__2175 rfl ?_
    refine s_iadd (pc := 2176) dL_law__2176 ?_
    refine m_nm (v' := nI ((10 * q) + 2)) (nI_add (10 * q) 2) ?_
    refine s_sld (pc := 2177) dL_law__2177 (vp_in_nI (n := (10 * q) + 2) (by omega) (by omega)) ?_
    refine m_nm (v' := gx g (10 * q + 2)) (rdX (by omega)) ?_
    refine m_v2 (pc := 2178) dL_law__2178 lk_L_230 ok_X12_sure (rcO o_534 (by decide) rfl) rfl rfl (hM g (d + 36) I1 (upJ J 560 0 v1.toInt64) n w _ (mI_c hm f1) (fun v2 I2 e2 hm2 f2 h0 => kt_s ?_) (fun k2 I2 e2 _ _ _ => (by rw [e1] at e2; cases e2)))
    · have ev : v1 = v2 := by rw [e1] at e2; cases e2; rfl
      subst ev
      refine s_istore (pc := 2181) (i := 6) dL_law__2181 (Nat.le_of_ble_eq_true rfl) ?_
      dsimp only [List.set, List.filter]
      refine s_aload_n (pc := 2183) (i := 2) dL_law__2183 rfl rfl ?_
      refine m_v0 (pc := 2184) dL_law__2184 lk_L_134 ok_X12_thrown (rcO o_534 (by decide) rfl) rfl rfl (c_X12_thrown h0 (kt_s ?_))
      · refine s_iload (pc := 2187) (i := 5) dL_law__2187 rfl ?_
        refine s_iceq (pc := 2189) (tgt := 2194) dL_law__2189 rfl (fun h2189 => ?_) (fun h2189 => absurd h2189 (by decide))
        refine s_iload (pc := 2194) (i := 5) dL_law__2194 rfl ?_
        refine s_ifne (pc := 2196) (tgt := 2211) dL_law__2196 rfl (fun h2196 => absurd h2196 (by decide)) (fun h2196 => ?_)
        refine s_aload_n (pc := 2199) (i := 3) dL_law__2199 rfl rfl ?_
        refine m_ic (pc := 2200) (v := 0) dL_law__2200 rfl ?_
        refine m_la (pc := 2201) dL_law__2201 a_560 (vp_in_nI (n := 0) (by omega) (by decide)) ?_
        refine m_nl (v' := v1.toInt64) (uJ_s) ?_
        refine s_iload (pc := 2202) (i := 6) dL_law__2202 rfl ?_
        refine s_i2l (pc := 2204) dL_law__2204 ?_
        refine s_lcmp (pc := 2205) dL_law__2205 ?_
        refine m_nm (v' := 0) (lg_cc) ?_
        refine s_ifeq (pc := 2206) (tgt := 2211) dL_law__2206 rfl (fun h2206 => ?_) (fun h2206 => absurd h2206 (by decide))
        refine s_goto (pc := 2211) (tgt := 2692) dL_law__2211 rfl ?_
        exact hK x1 I2 _ n w _ _ _ _ hg1 (cI_m hg1 hc1 f2) hm2 (by omega) (by omega)
  · obtain ⟨c1, ec1, nc1⟩ := hA k1 e1
    refine ⟨c1, ec1, kt_s ?_⟩
    refine s_istore (pc := 2163) (i := 5) dL_law__2163 (Nat.le_of_ble_eq_true rfl) ?_
    dsimp only [List.set, List.filter]
    refine s_aload_n (pc := 2165) (i := 2) dL_law__2165 rfl rfl ?_
    refine s_aload_n (pc := 2166) (i := 0) dL_law__2166 rfl rfl ?_
    refine s_iload (pc := 2167) (i := 4) dL_law__2167 rfl ?_
    refine m_ic (pc := 2169) (v := 1) dL_law__2169 rfl ?_
    refine s_iadd (pc := 2170) dL_law__2170 ?_
    refine m_nm (v' := nI ((10 * q) + 1)) (nI_add (10 * q) 1) ?_
    refine s_sld (pc := 2171) dL_law__2171 (vp_in_nI (n := (10 * q) + 1) (by omega) (by omega)) ?_
    refine m_nm (v' := gx g (10 * q + 1)) (rdX (by omega)) ?_
    refine s_aload_n (pc := 2172) (i := 0) dL_law__2172 rfl rfl ?_
    refine s_iload (pc := 2173) (i := 4) dL_law__2173 rfl ?_
    refine m_ic (pc := 2175) (v := 2) dL_law__2175 rfl ?_
    refine s_iadd (pc := 2176) dL_law__2176 ?_
    refine m_nm (v' := nI ((10 * q) + 2)) (nI_add (10 * q) 2) ?_
    refine s_sld (pc := 2177) dL_law__2177 (vp_in_nI (n := (10 * q) + 2) (by omega) (by omega)) ?_
    refine m_nm (v' := gx g (10 * q + 2)) (rdX (by omega)) ?_
    refine m_v2 (pc := 2178) dL_law__2178 lk_L_230 ok_X12_sure (rcO o_534 (by decide) rfl) rfl rfl (hM g (d + 36) I1 J (n + 1) (w + 6) _ (mI_c hm f1) (fun v2 I2 e2 _ _ _ => (by rw [e1] at e2; cases e2)) (fun k2 I2 e2 hm2 f2 h0 => kt_s ?_))
    · have ek : k1 = k2 := by rw [e1] at e2; cases e2; rfl
      subst ek
      have h0 : I2 534 0 = c1 := h0.trans (by rw [ec1]; rfl)
      refine s_istore (pc := 2181) (i := 6) dL_law__2181 (Nat.le_of_ble_eq_true rfl) ?_
      dsimp only [List.set, List.filter]
      refine s_aload_n (pc := 2183) (i := 2) dL_law__2183 rfl rfl ?_
      refine m_v0 (pc := 2184) dL_law__2184 lk_L_134 ok_X12_thrown (rcO o_534 (by decide) rfl) rfl rfl (c_X12_thrown h0 (kt_s ?_))
      refine s_iload (pc := 2187) (i := 5) dL_law__2187 rfl ?_
      refine s_iceq (pc := 2189) (tgt := 2194) dL_law__2189 rfl (fun h2189 => ?_) (fun h2189 => absurd (rfl) h2189)
      refine s_iload (pc := 2194) (i := 5) dL_law__2194 rfl ?_
      refine s_ifne (pc := 2196) (tgt := 2211) dL_law__2196 rfl (fun h2196 => ?_) (fun h2196 => absurd h2196 (nc1))
      refine s_goto (pc := 2211) (tgt := 2692) dL_law__2211 rfl ?_
      exact hK x1 I2 J (n + 1) (w + 6) _ _ _ _ hg1 (cI_m hg1 hc1 f2) hm2 (by omega) (by omega)
theorem lw_31 {x : gX} {q : Nat} {v5 v6 v7 : Value} (hN : aNx g) (hL : 10 * q + 10 ≤ gL g) (hL2 : gL g ≤ 5120) (hx : gOk x) (hc : cI x I) (hm : mI x I) (hn : n + 1 ≤ 600000 ∧ w + 6 ≤ 7000000) (hK : ∀ (x' : gX) (I' : Nat → Nat → Int32) (J' : Nat → Nat → Int64) (n' w' : Nat) (v5 v6 v7 : Value) (ll : List (Nat × Int64)), gOk x' → cI x' I' → mI x' I' → n' ≤ n + 1 → w' ≤ w + 6 → Rn g (d + 40) mL_law_ 2692 [.ref 0, .ref 1, .ref 534, .ref 560, .int (nI (10 * q)), v5, v6, v7] ll [] (Z I' J' n' w') Q) : Rn g (d + 40) mL_law_ 2214 [.ref 0, .ref 1, .ref 534, .ref 560, .int (nI (10 * q)), v5, v6, v7] [] [] (Z I J n w) Q := by
  obtain ⟨x1, A1, hg1, hA, hC, hM⟩ := pr_bearers (x := gx g (10 * q + 1)) hx
  refine s_aload_n (pc := 2214) (i := 1) dL_law__2214 rfl rfl ?_
  refine s_aload_n (pc := 2215) (i := 0) dL_law__2215 rfl rfl ?_
  refine s_iload (pc := 2216) (i := 4) dL_law__2216 rfl ?_
  refine m_ic (pc := 2218) (v := 1) dL_law__2218 rfl ?_
  refine s_iadd (pc := 2219) dL_law__2219 ?_
  refine m_nm (v' := nI ((10 * q) + 1)) (nI_add (10 * q) 1) ?_
  refine s_sld (pc := 2220) dL_law__2220 (vp_in_nI (n := (10 * q) + 1) (by omega) (by omega)) ?_
  refine m_nm (v' := gx g (10 * q + 1)) (rdX (by omega)) ?_
  refine s_aload_n (pc := 2221) (i := 3) dL_law__2221 rfl rfl ?_
  refine m_h3 (y' := mL_bearers) (pc := 2222) dL_law__2222 ml_L_231 ok_L_bearers sa_L_bearers rfl rfl (c_L_bearers hN (hC g (d + 30) I J n w _ hc hn (fun v1 I1 e1 hc1 f1 => ⟨I1, J, n, w, rfl, kt_s ?_⟩) (fun k1 I1 e1 hc1 f1 => ?_)))
  · refine s_istore (pc := 2225) (i := 5) dL_law__2225 (Nat.le_of_ble_eq_true rfl) ?_
    dsimp only [List.set, List.filter]
    refine s_aload_n (pc := 2227) (i := 2) dL_law__2227 rfl rfl ?_
    refine s_aload_n (pc := 2228) (i := 0) dL_law__2228 rfl rfl ?_
    refine s_iload (pc := 2229) (i := 4) dL_law__2229 rfl ?_
    refine m_ic (pc := 2231) (v := 1) dL_law__2231 rfl ?_
    refine s_iadd (pc := 2232) dL_law__2232 ?_
    refine m_nm (v' := nI ((10 * q) + 1)) (nI_add (10 * q) 1) ?_
    refine s_sld (pc := 2233) dL_law__2233 (vp_in_nI (n := (10 * q) + 1) (by omega) (by omega)) ?_
    refine m_nm (v' := gx g (10 * q + 1)) (rdX (by omega)) ?_
    refine m_v1 (pc := 2234) dL_law__2234 lk_L_233 ok_X12_bearers (rcO o_534 (by decide) rfl) rfl rfl (hM g (d + 32) I1 (upJ J 560 0 v1.toInt64) n w _ (mI_c hm f1) (fun v2 I2 e2 hm2 f2 h0 => kt_s ?_) (fun k2 I2 e2 _ _ _ => (by rw [e1] at e2; cases e2)))
    · have ev : v1 = v2 := by rw [e1] at e2; cases e2; rfl
      subst ev
      refine s_istore (pc := 2237) (i := 6) dL_law__2237 (Nat.le_of_ble_eq_true rfl) ?_
      dsimp only [List.set, List.filter]
      refine s_aload_n (pc := 2239) (i := 2) dL_law__2239 rfl rfl ?_
      refine m_v0 (pc := 2240) dL_law__2240 lk_L_134 ok_X12_thrown (rcO o_534 (by decide) rfl) rfl rfl (c_X12_thrown h0 (kt_s ?_))
      · refine s_iload (pc := 2243) (i := 5) dL_law__2243 rfl ?_
        refine s_iceq (pc := 2245) (tgt := 2250) dL_law__2245 rfl (fun h2245 => ?_) (fun h2245 => absurd h2245 (by decide))
        refine s_iload (pc := 2250) (i := 5) dL_law__2250 rfl ?_
        refine s_ifne (pc := 2252) (tgt := 2267) dL_law__2252 rfl (fun h2252 => absurd h2252 (by decide)) (fun h2252 => ?_)
        refine s_aload_n (pc := 2255) (i := 3) dL_law__2255 rfl rfl ?_
        refine m_ic (pc := 2256) (v := 0) dL_law__2256 rfl ?_
        refine m_la (pc := 2257) dL_law__2257 a_560 (vp_in_nI (n := 0) (by omega) (by decide)) ?_
        refine m_nl (v' := v1.toInt64) (uJ_s) ?_
        refine s_iload (pc := 2258) (i := 6) dL_law__2258 rfl ?_
        refine s_i2l (pc := 2260) dL_law__2260 ?_
        refine s_lcmp (pc := 2261) dL_law__2261 ?_
        refine m_nm (v' := 0) (lg_cc) ?_
        refine s_ifeq (pc := 2262) (tgt := 2267) dL_law__2262 rfl (fun h2262 => ?_) (fun h2262 => absurd h2262 (by decide))
        refine s_goto (pc := 2267) (tgt := 2692) dL_law__2267 rfl ?_
        exact hK x1 I2 _ n w _ _ _ _ hg1 (cI_m hg1 hc1 f2) hm2 (by omega) (by omega)
  · obtain ⟨c1, ec1, nc1⟩ := hA k1 e1
    refine ⟨c1, ec1, kt_s ?_⟩
    refine s_istore (pc := 2225) (i := 5) dL_law__2225 (Nat.le_of_ble_eq_true rfl) ?_
    dsimp only [List.set, List.filter]
    refine s_aload_n (pc := 2227) (i := 2) dL_law__2227 rfl rfl ?_
    refine s_aload_n (pc := 2228) (i := 0) dL_law__2228 rfl rfl ?_
    refine s_iload (pc := 2229) (i := 4) dL_law__2229 rfl ?_
    refine m_ic (pc := 2231) (v := 1) dL_law__2231 rfl ?_
    refine s_iadd (pc := 2232) dL_law__2232 ?_
    refine m_nm (v' := nI ((10 * q) + 1)) (nI_add (10 * q) 1) ?_
    refine s_sld (pc := 2233) dL_law__2233 (vp_in_nI (n := (10 * q) + 1) (by omega) (by omega)) ?_
    refine m_nm (v' := gx g (10 * q + 1)) (rdX (by omega)) ?_
    refine m_v1 (pc := 2234) dL_law__2234 lk_L_233 ok_X12_bearers (rcO o_534 (by decide) rfl) rfl rfl (hM g (d + 32) I1 J (n + 1) (w + 6) _ (mI_c hm f1) (fun v2 I2 e2 _ _ _ => (by rw [e1] at e2; cases e2)) (fun k2 I2 e2 hm2 f2 h0 => kt_s ?_))
    · have ek : k1 = k2 := by rw [e1] at e2; cases e2; rfl
      subst ek
      have h0 : I2 534 0 = c1 := h0.trans (by rw [ec1]; rfl)
      refine s_istore (pc := 2237) (i := 6) dL_law__2237 (Nat.le_of_ble_eq_true rfl) ?_
      dsimp only [List.set, List.filter]
      refine s_aload_n (pc := 2239) (i := 2) dL_law__2239 rfl rfl ?_
      refine m_v0 (pc := 2240) dL_law__2240 lk_L_134 ok_X12_thrown (rcO o_534 (by decide) rfl) rfl rfl (c_X12_thrown h0 (kt_s ?_))
      refine s_iload (pc := 2243) (i := 5) dL_law__2243 rfl ?_
      refine s_iceq (pc := 2245) (tgt := 2250) dL_law__2245 rfl (fun h2245 => ?_) (fun h2245 => absurd (rfl) h2245)
      refine s_iload (pc := 2250) (i := 5) dL_law__2250 rfl ?_
      refine s_ifne (pc := 2252) (tgt := 2267) dL_law__2252 rfl (fun h2252 => ?_) (fun h2252 => absurd h2252 (nc1))
      refine s_goto (pc := 2267) (tgt := 2692) dL_law__2267 rfl ?_
      exact hK x1 I2 J (n + 1) (w + 6) _ _ _ _ hg1 (cI_m hg1 hc1 f2) hm2 (by omega) (by omega)
theorem lw_32 {x : gX} {q : Nat} {v5 v6 v7 : Value} (hN : aNx g) (hL : 10 * q + 10 ≤ gL g) (hL2 : gL g ≤ 5120) (hx : gOk x) (hc : cI x I) (hm : mI x I) (hn : n + 1 ≤ 600000 ∧ w + 6 ≤ 7000000) (hK : ∀ (x' : gX) (I' : Nat → Nat → Int32) (J' : Nat → Nat → Int64) (n' w' : Nat) (v5 v6 v7 : Value) (ll : List (Nat × Int64)), gOk x' → cI x' I' → mI x' I' → n' ≤ n + 1 → w' ≤ w + 6 → Rn g (d + 40) mL_law_ 2692 [.ref 0, .ref 1, .ref 534, .ref 560, .int (nI (10 * q)), v5, v6, v7] ll [] (Z I' J' n' w') Q) : Rn g (d + 40) mL_law_ 2270 [.ref 0, .ref 1, .ref 534, .ref 560, .int (nI (10 * q)), v5, v6, v7] [] [] (Z I J n w) Q := by
  obtain ⟨x1, A1, hg1, hA, hC, hM⟩ := pr_rumour (x := gx g (10 * q + 1)) (y := gx g (10 * q + 2)) hx
  refine s_aload_n (pc := 2270) (i := 1) dL_law__2270 rfl rfl ?_
  refine s_aload_n (pc := 2271) (i := 0) dL_law__2271 rfl rfl ?_
  refine s_iload (pc := 2272) (i := 4) dL_law__2272 rfl ?_
  refine m_ic (pc := 2274) (v := 1) dL_law__2274 rfl ?_
  refine s_iadd (pc := 2275) dL_law__2275 ?_
  refine m_nm (v' := nI ((10 * q) + 1)) (nI_add (10 * q) 1) ?_
  refine s_sld (pc := 2276) dL_law__2276 (vp_in_nI (n := (10 * q) + 1) (by omega) (by omega)) ?_
  refine m_nm (v' := gx g (10 * q + 1)) (rdX (by omega)) ?_
  refine s_aload_n (pc := 2277) (i := 0) dL_law__2277 rfl rfl ?_
  refine s_iload (pc := 2278) (i := 4) dL_law__2278 rfl ?_
  refine m_ic (pc := 2280) (v := 2) dL_law__2280 rfl ?_
  refine s_iadd (pc := 2281) dL_law__2281 ?_
  refine m_nm (v' := nI ((10 * q) + 2)) (nI_add (10 * q) 2) ?_
  refine s_sld (pc := 2282) dL_law__2282 (vp_in_nI (n := (10 * q) + 2) (by omega) (by omega)) ?_
  refine m_nm (v' := gx g (10 * q + 2)) (rdX (by omega)) ?_
  refine s_aload_n (pc := 2283) (i := 3) dL_law__2283 rfl rfl ?_
  refine m_h4 (y' := mL_rumour) (pc := 2284) dL_law__2284 ml_L_234 ok_L_rumour sa_L_rumour rfl rfl (c_L_rumour hN (hC g (d + 30) I J n w _ hc hn (fun v1 I1 e1 hc1 f1 => ⟨I1, J, n, w, rfl, kt_s ?_⟩) (fun k1 I1 e1 hc1 f1 => ?_)))
  · refine s_istore (pc := 2287) (i := 5) dL_law__2287 (Nat.le_of_ble_eq_true rfl) ?_
    dsimp only [List.set, List.filter]
    refine s_aload_n (pc := 2289) (i := 2) dL_law__2289 rfl rfl ?_
    refine s_aload_n (pc := 2290) (i := 0) dL_law__2290 rfl rfl ?_
    refine s_iload (pc := 2291) (i := 4) dL_law__2291 rfl ?_
    refine m_ic (pc := 2293) (v := 1) dL_law__2293 rfl ?_
    refine s_iadd (pc := 2294) dL_law__2294 ?_
    refine m_nm (v' := nI ((10 * q) + 1)) (nI_add (10 * q) 1) ?_
    refine s_sld (pc := 2295) dL_law__2295 (vp_in_nI (n := (10 * q) + 1) (by omega) (by omega)) ?_
    refine m_nm (v' := gx g (10 * q + 1)) (rdX (by omega)) ?_
    refine s_aload_n (pc := 2296) (i := 0) dL_law__2296 rfl rfl ?_
    refine s_iload (pc := 2297) (i := 4) dL_law__2297 rfl ?_
    refine m_ic (pc := 2299) (v := 2) dL_law__2299 rfl ?_
    refine s_iadd (pc := 2300) dL_law__2300 ?_
    refine m_nm (v' := nI ((10 * q) + 2)) (nI_add (10 * q) 2) ?_
    refine s_sld (pc := 2301) dL_law__2301 (vp_in_nI (n := (10 * q) + 2) (by omega) (by omega)) ?_
    refine m_nm (v' := gx g (10 * q + 2)) (rdX (by omega)) ?_
    refine m_v2 (pc := 2302) dL_law__2302 lk_L_236 ok_X12_rumour (rcO o_534 (by decide) rfl) rfl rfl (hM g (d + 37) I1 (upJ J 560 0 v1.toInt64) n w _ (mI_c hm f1) (fun v2 I2 e2 hm2 f2 h0 => kt_s ?_) (fun k2 I2 e2 _ _ _ => (by rw [e1] at e2; cases e2)))
    · have ev : v1 = v2 := by rw [e1] at e2; cases e2; rfl
      subst ev
      refine s_istore (pc := 2305) (i := 6) dL_law__2305 (Nat.le_of_ble_eq_true rfl) ?_
      dsimp only [List.set, List.filter]
      refine s_aload_n (pc := 2307) (i := 2) dL_law__2307 rfl rfl ?_
      refine m_v0 (pc := 2308) dL_law__2308 lk_L_134 ok_X12_thrown (rcO o_534 (by decide) rfl) rfl rfl (c_X12_thrown h0 (kt_s ?_))
      · refine s_iload (pc := 2311) (i := 5) dL_law__2311 rfl ?_
        refine s_iceq (pc := 2313) (tgt := 2318) dL_law__2313 rfl (fun h2313 => ?_) (fun h2313 => absurd h2313 (by decide))
        refine s_iload (pc := 2318) (i := 5) dL_law__2318 rfl ?_
        refine s_ifne (pc := 2320) (tgt := 2335) dL_law__2320 rfl (fun h2320 => absurd h2320 (by decide)) (fun h2320 => ?_)
        refine s_aload_n (pc := 2323) (i := 3) dL_law__2323 rfl rfl ?_
        refine m_ic (pc := 2324) (v := 0) dL_law__2324 rfl ?_
        refine m_la (pc := 2325) dL_law__2325 a_560 (vp_in_nI (n := 0) (by omega) (by decide)) ?_
        refine m_nl (v' := v1.toInt64) (uJ_s) ?_
        refine s_iload (pc := 2326) (i := 6) dL_law__2326 rfl ?_
        refine s_i2l (pc := 2328) dL_law__2328 ?_
        refine s_lcmp (pc := 2329) dL_law__2329 ?_
        refine m_nm (v' := 0) (lg_cc) ?_
        refine s_ifeq (pc := 2330) (tgt := 2335) dL_law__2330 rfl (fun h2330 => ?_) (fun h2330 => absurd h2330 (by decide))
        refine s_goto (pc := 2335) (tgt := 2692) dL_law__2335 rfl ?_
        exact hK x1 I2 _ n w _ _ _ _ hg1 (cI_m hg1 hc1 f2) hm2 (by omega) (by omega)
  · obtain ⟨c1, ec1, nc1⟩ := hA k1 e1
    refine ⟨c1, ec1, kt_s ?_⟩
    refine s_istore (pc := 2287) (i := 5) dL_law__2287 (Nat.le_of_ble_eq_true rfl) ?_
    dsimp only [List.set, List.filter]
    refine s_aload_n (pc := 2289) (i := 2) dL_law__2289 rfl rfl ?_
    refine s_aload_n (pc := 2290) (i := 0) dL_law__2290 rfl rfl ?_
    refine s_iload (pc := 2291) (i := 4) dL_law__2291 rfl ?_
    refine m_ic (pc := 2293) (v := 1) dL_law__2293 rfl ?_
    refine s_iadd (pc := 2294) dL_law__2294 ?_
    refine m_nm (v' := nI ((10 * q) + 1)) (nI_add (10 * q) 1) ?_
    refine s_sld (pc := 2295) dL_law__2295 (vp_in_nI (n := (10 * q) + 1) (by omega) (by omega)) ?_
    refine m_nm (v' := gx g (10 * q + 1)) (rdX (by omega)) ?_
    refine s_aload_n (pc := 2296) (i := 0) dL_law__2296 rfl rfl ?_
    refine s_iload (pc := 2297) (i := 4) dL_law__2297 rfl ?_
    refine m_ic (pc := 2299) (v := 2) dL_law__2299 rfl ?_
    refine s_iadd (pc := 2300) dL_law__2300 ?_
    refine m_nm (v' := nI ((10 * q) + 2)) (nI_add (10 * q) 2) ?_
    refine s_sld (pc := 2301) dL_law__2301 (vp_in_nI (n := (10 * q) + 2) (by omega) (by omega)) ?_
    refine m_nm (v' := gx g (10 * q + 2)) (rdX (by omega)) ?_
    refine m_v2 (pc := 2302) dL_law__2302 lk_L_236 ok_X12_rumour (rcO o_534 (by decide) rfl) rfl rfl (hM g (d + 37) I1 J (n + 1) (w + 6) _ (mI_c hm f1) (fun v2 I2 e2 _ _ _ => (by rw [e1] at e2; cases e2)) (fun k2 I2 e2 hm2 f2 h0 => kt_s ?_))
    · have ek : k1 = k2 := by rw [e1] at e2; cases e2; rfl
      subst ek
      have h0 : I2 534 0 = c1 := h0.trans (by rw [ec1]; rfl)
      refine s_istore (pc := 2305) (i := 6) dL_law__2305 (Nat.le_of_ble_eq_true rfl) ?_
      dsimp only [List.set, List.filter]
      refine s_aload_n (pc := 2307) (i := 2) dL_law__2307 rfl rfl ?_
      refine m_v0 (pc := 2308) dL_law__2308 lk_L_134 ok_X12_thrown (rcO o_534 (by decide) rfl) rfl rfl (c_X12_thrown h0 (kt_s ?_))
      refine s_iload (pc := 2311) (i := 5) dL_law__2311 rfl ?_
      refine s_iceq (pc := 2313) (tgt := 2318) dL_law__2313 rfl (fun h2313 => ?_) (fun h2313 => absurd (rfl) h2313)
      refine s_iload (pc := 2318) (i := 5) dL_law__2318 rfl ?_
      refine s_ifne (pc := 2320) (tgt := 2335) dL_law__2320 rfl (fun h2320 => ?_) (fun h2320 => absurd h2320 (nc1))
      refine s_goto (pc := 2335) (tgt := 2692) dL_law__2335 rfl ?_
      exact hK x1 I2 J (n + 1) (w + 6) _ _ _ _ hg1 (cI_m hg1 hc1 f2) hm2 (by omega) (by omega)
theorem lw_33 {x : gX} {q : Nat} {v5 v6 v7 : Value} (hN : aNx g) (hL : 10 * q + 10 ≤ gL g) (hL2 : gL g ≤ 5120) (hx : gOk x) (hc : cI x I) (hm : mI x I) (hn : n + 1 ≤ 600000 ∧ w + 6 ≤ 7000000) (hK : ∀ (x' : gX) (I' : Nat → Nat → Int32) (J' : Nat → Nat → Int64) (n' w' : Nat) (v5 v6 v7 : Value) (ll : List (Nat × Int64)), gOk x' → cI x' I' → mI x' I' → n' ≤ n + 1 → w' ≤ w + 6 → Rn g (d + 40) mL_law_ 2692 [.ref 0, .ref 1, .ref 534, .ref 560, .int (nI (10 * q)), v5, v6, v7] ll [] (Z I' J' n' w') Q) : Rn g (d + 40) mL_law_ 2338 [.ref 0, .ref 1, .ref 534, .ref 560, .int (nI (10 * q)), v5, v6, v7] [] [] (Z I J n w) Q := by
  obtain ⟨x1, A1, hg1, hA, hC, hM⟩ := pr_lied (x := gx g (10 * q + 1)) (y := gx g (10 * q + 2)) hx
  refine s_aload_n (pc := 2338) (i := 1) dL_law__2338 rfl rfl ?_
  refine s_aload_n (pc := 2339) (i := 0) dL_law__2339 rfl rfl ?_
  refine s_iload (pc := 2340) (i := 4) dL_law__2340 rfl ?_
  refine m_ic (pc := 2342) (v := 1) dL_law__2342 rfl ?_
  refine s_iadd (pc := 2343) dL_law__2343 ?_
  refine m_nm (v' := nI ((10 * q) + 1)) (nI_add (10 * q) 1) ?_
  refine s_sld (pc := 2344) dL_law__2344 (vp_in_nI (n := (10 * q) + 1) (by omega) (by omega)) ?_
  refine m_nm (v' := gx g (10 * q + 1)) (rdX (by omega)) ?_
  refine s_aload_n (pc := 2345) (i := 0) dL_law__2345 rfl rfl ?_
  refine s_iload (pc := 2346) (i := 4) dL_law__2346 rfl ?_
  refine m_ic (pc := 2348) (v := 2) dL_law__2348 rfl ?_
  refine s_iadd (pc := 2349) dL_law__2349 ?_
  refine m_nm (v' := nI ((10 * q) + 2)) (nI_add (10 * q) 2) ?_
  refine s_sld (pc := 2350) dL_law__2350 (vp_in_nI (n := (10 * q) + 2) (by omega) (by omega)) ?_
  refine m_nm (v' := gx g (10 * q + 2)) (rdX (by omega)) ?_
  refine s_aload_n (pc := 2351) (i := 3) dL_law__2351 rfl rfl ?_
  refine m_h4 (y' := mL_lied) (pc := 2352) dL_law__2352 ml_L_237 ok_L_lied sa_L_lied rfl rfl (c_L_lied hN (hC g (d + 30) I J n w _ hc hn (fun v1 I1 e1 hc1 f1 => ⟨I1, J, n, w, rfl, kt_s ?_⟩) (fun k1 I1 e1 hc1 f1 => ?_)))
  · refine s_istore (pc := 2355) (i := 5) dL_law__2355 (Nat.le_of_ble_eq_true rfl) ?_
    dsimp only [List.set, List.filter]
    refine s_aload_n (pc := 2357) (i := 2) dL_law__2357 rfl rfl ?_
    refine s_aload_n (pc := 2358) (i := 0) dL_law__2358 rfl rfl ?_
    refine s_iload (pc := 2359) (i := 4) dL_law__2359 rfl ?_
    refine m_ic (pc := 2361) (v := 1) dL_law__2361 rfl ?_
    refine s_iadd (pc := 2362) dL_law__2362 ?_
    refine m_nm (v' := nI ((10 * q) + 1)) (nI_add (10 * q) 1) ?_
    refine s_sld (pc := 2363) dL_law__2363 (vp_in_nI (n := (10 * q) + 1) (by omega) (by omega)) ?_
    refine m_nm (v' := gx g (10 * q + 1)) (rdX (by omega)) ?_
    refine s_aload_n (pc := 2364) (i := 0) dL_law__2364 rfl rfl ?_
    refine s_iload (pc := 2365) (i := 4) dL_law__2365 rfl ?_
    refine m_ic (pc := 2367) (v := 2) dL_law__2367 rfl ?_
    refine s_iadd (pc := 2368) dL_law__2368 ?_
    refine m_nm (v' := nI ((10 * q) + 2)) (nI_add (10 * q) 2) ?_
    refine s_sld (pc := 2369) dL_law__2369 (vp_in_nI (n := (10 * q) + 2) (by omega) (by omega)) ?_
    refine m_nm (v' := gx g (10 * q + 2)) (rdX (by omega)) ?_
    refine m_v2 (pc := 2370) dL_law__2370 lk_L_239 ok_X12_lied (rcO o_534 (by decide) rfl) rfl rfl (hM g (d + 37) I1 (upJ J 560 0 v1.toInt64) n w _ (mI_c hm f1) (fun v2 I2 e2 hm2 f2 h0 => kt_s ?_) (fun k2 I2 e2 _ _ _ => (by rw [e1] at e2; cases e2)))
    · have ev : v1 = v2 := by rw [e1] at e2; cases e2; rfl
      subst ev
      refine s_istore (pc := 2373) (i := 6) dL_law__2373 (Nat.le_of_ble_eq_true rfl) ?_
      dsimp only [List.set, List.filter]
      refine s_aload_n (pc := 2375) (i := 2) dL_law__2375 rfl rfl ?_
      refine m_v0 (pc := 2376) dL_law__2376 lk_L_134 ok_X12_thrown (rcO o_534 (by decide) rfl) rfl rfl (c_X12_thrown h0 (kt_s ?_))
      · refine s_iload (pc := 2379) (i := 5) dL_law__2379 rfl ?_
        refine s_iceq (pc := 2381) (tgt := 2386) dL_law__2381 rfl (fun h2381 => ?_) (fun h2381 => absurd h2381 (by decide))
        refine s_iload (pc := 2386) (i := 5) dL_law__2386 rfl ?_
        refine s_ifne (pc := 2388) (tgt := 2403) dL_law__2388 rfl (fun h2388 => absurd h2388 (by decide)) (fun h2388 => ?_)
        refine s_aload_n (pc := 2391) (i := 3) dL_law__2391 rfl rfl ?_
        refine m_ic (pc := 2392) (v := 0) dL_law__2392 rfl ?_
        refine m_la (pc := 2393) dL_law__2393 a_560 (vp_in_nI (n := 0) (by omega) (by decide)) ?_
        refine m_nl (v' := v1.toInt64) (uJ_s) ?_
        refine s_iload (pc := 2394) (i := 6) dL_law__2394 rfl ?_
        refine s_i2l (pc := 2396) dL_law__2396 ?_
        refine s_lcmp (pc := 2397) dL_law__2397 ?_
        refine m_nm (v' := 0) (lg_cc) ?_
        refine s_ifeq (pc := 2398) (tgt := 2403) dL_law__2398 rfl (fun h2398 => ?_) (fun h2398 => absurd h2398 (by decide))
        refine s_goto (pc := 2403) (tgt := 2692) dL_law__2403 rfl ?_
        exact hK x1 I2 _ n w _ _ _ _ hg1 (cI_m hg1 hc1 f2) hm2 (by omega) (by omega)
  · obtain ⟨c1, ec1, nc1⟩ := hA k1 e1
    refine ⟨c1, ec1, kt_s ?_⟩
    refine s_istore (pc := 2355) (i := 5) dL_law__2355 (Nat.le_of_ble_eq_true rfl) ?_
    dsimp only [List.set, List.filter]
    refine s_aload_n (pc := 2357) (i := 2) dL_law__2357 rfl rfl ?_
    refine s_aload_n (pc := 2358) (i := 0) dL_law__2358 rfl rfl ?_
    refine s_iload (pc := 2359) (i := 4) dL_law__2359 rfl ?_
    refine m_ic (pc := 2361) (v := 1) dL_law__2361 rfl ?_
    refine s_iadd (pc := 2362) dL_law__2362 ?_
    refine m_nm (v' := nI ((10 * q) + 1)) (nI_add (10 * q) 1) ?_
    refine s_sld (pc := 2363) dL_law__2363 (vp_in_nI (n := (10 * q) + 1) (by omega) (by omega)) ?_
    refine m_nm (v' := gx g (10 * q + 1)) (rdX (by omega)) ?_
    refine s_aload_n (pc := 2364) (i := 0) dL_law__2364 rfl rfl ?_
    refine s_iload (pc := 2365) (i := 4) dL_law__2365 rfl ?_
    refine m_ic (pc := 2367) (v := 2) dL_law__2367 rfl ?_
    refine s_iadd (pc := 2368) dL_law__2368 ?_
    refine m_nm (v' := nI ((10 * q) + 2)) (nI_add (10 * q) 2) ?_
    refine s_sld (pc := 2369) dL_law__2369 (vp_in_nI (n := (10 * q) + 2) (by omega) (by omega)) ?_
    refine m_nm (v' := gx g (10 * q + 2)) (rdX (by omega)) ?_
    refine m_v2 (pc := 2370) dL_law__2370 lk_L_239 ok_X12_lied (rcO o_534 (by decide) rfl) rfl rfl (hM g (d + 37) I1 J (n + 1) (w + 6) _ (mI_c hm f1) (fun v2 I2 e2 _ _ _ => (by rw [e1] at e2; cases e2)) (fun k2 I2 e2 hm2 f2 h0 => kt_s ?_))
    · have ek : k1 = k2 := by rw [e1] at e2; cases e2; rfl
      subst ek
      have h0 : I2 534 0 = c1 := h0.trans (by rw [ec1]; rfl)
      refine s_istore (pc := 2373) (i := 6) dL_law__2373 (Nat.le_of_ble_eq_true rfl) ?_
      dsimp only [List.set, List.filter]
      refine s_aload_n (pc := 2375) (i := 2) dL_law__2375 rfl rfl ?_
      refine m_v0 (pc := 2376) dL_law__2376 lk_L_134 ok_X12_thrown (rcO o_534 (by decide) rfl) rfl rfl (c_X12_thrown h0 (kt_s ?_))
      refine s_iload (pc := 2379) (i := 5) dL_law__2379 rfl ?_
      refine s_iceq (pc := 2381) (tgt := 2386) dL_law__2381 rfl (fun h2381 => ?_) (fun h2381 => absurd (rfl) h2381)
      refine s_iload (pc := 2386) (i := 5) dL_law__2386 rfl ?_
      refine s_ifne (pc := 2388) (tgt := 2403) dL_law__2388 rfl (fun h2388 => ?_) (fun h2388 => absurd h2388 (nc1))
      refine s_goto (pc := 2403) (tgt := 2692) dL_law__2403 rfl ?_
      exact hK x1 I2 J (n + 1) (w + 6) _ _ _ _ hg1 (cI_m hg1 hc1 f2) hm2 (by omega) (by omega)
theorem lw_34 {x : gX} {q : Nat} {v5 v6 v7 : Value} (hN : aNx g) (hL : 10 * q + 10 ≤ gL g) (hL2 : gL g ≤ 5120) (hx : gOk x) (hc : cI x I) (hm : mI x I) (hn : n + 1 ≤ 600000 ∧ w + 6 ≤ 7000000) (hK : ∀ (x' : gX) (I' : Nat → Nat → Int32) (J' : Nat → Nat → Int64) (n' w' : Nat) (v5 v6 v7 : Value) (ll : List (Nat × Int64)), gOk x' → cI x' I' → mI x' I' → n' ≤ n + 1 → w' ≤ w + 6 → Rn g (d + 40) mL_law_ 2692 [.ref 0, .ref 1, .ref 534, .ref 560, .int (nI (10 * q)), v5, v6, v7] ll [] (Z I' J' n' w') Q) : Rn g (d + 40) mL_law_ 2406 [.ref 0, .ref 1, .ref 534, .ref 560, .int (nI (10 * q)), v5, v6, v7] [] [] (Z I J n w) Q := by
  obtain ⟨x1, A1, hg1, hA, hC, hM⟩ := pr_reign (x := gx g (10 * q + 1)) (y := gx g (10 * q + 2)) (z := gx g (10 * q + 3)) (u := gx g (10 * q + 4)) hx
  refine s_aload_n (pc := 2406) (i := 1) dL_law__2406 rfl rfl ?_
  refine s_aload_n (pc := 2407) (i := 0) dL_law__2407 rfl rfl ?_
  refine s_iload (pc := 2408) (i := 4) dL_law__2408 rfl ?_
  refine m_ic (pc := 2410) (v := 1) dL_law__2410 rfl ?_
  refine s_iadd (pc := 2411) dL_law__2411 ?_
  refine m_nm (v' := nI ((10 * q) + 1)) (nI_add (10 * q) 1) ?_
  refine s_sld (pc := 2412) dL_law__2412 (vp_in_nI (n := (10 * q) + 1) (by omega) (by omega)) ?_
  refine m_nm (v' := gx g (10 * q + 1)) (rdX (by omega)) ?_
  refine s_aload_n (pc := 2413) (i := 0) dL_law__2413 rfl rfl ?_
  refine s_iload (pc := 2414) (i := 4) dL_law__2414 rfl ?_
  refine m_ic (pc := 2416) (v := 2) dL_law__2416 rfl ?_
  refine s_iadd (pc := 2417) dL_law__2417 ?_
  refine m_nm (v' := nI ((10 * q) + 2)) (nI_add (10 * q) 2) ?_
  refine s_sld (pc := 2418) dL_law__2418 (vp_in_nI (n := (10 * q) + 2) (by omega) (by omega)) ?_
  refine m_nm (v' := gx g (10 * q + 2)) (rdX (by omega)) ?_
  refine s_aload_n (pc := 2419) (i := 0) dL_law__2419 rfl rfl ?_
  refine s_iload (pc := 2420) (i := 4) dL_law__2420 rfl ?_
  refine m_ic (pc := 2422) (v := 3) dL_law__2422 rfl ?_
  refine s_iadd (pc := 2423) dL_law__2423 ?_
  refine m_nm (v' := nI ((10 * q) + 3)) (nI_add (10 * q) 3) ?_
  refine s_sld (pc := 2424) dL_law__2424 (vp_in_nI (n := (10 * q) + 3) (by omega) (by omega)) ?_
  refine m_nm (v' := gx g (10 * q + 3)) (rdX (by omega)) ?_
  refine s_aload_n (pc := 2425) (i := 0) dL_law__2425 rfl rfl ?_
  refine s_iload (pc := 2426) (i := 4) dL_law__2426 rfl ?_
  refine m_ic (pc := 2428) (v := 4) dL_law__2428 rfl ?_
  refine s_iadd (pc := 2429) dL_law__2429 ?_
  refine m_nm (v' := nI ((10 * q) + 4)) (nI_add (10 * q) 4) ?_
  refine s_sld (pc := 2430) dL_law__2430 (vp_in_nI (n := (10 * q) + 4) (by omega) (by omega)) ?_
  refine m_nm (v' := gx g (10 * q + 4)) (rdX (by omega)) ?_
  refine s_aload_n (pc := 2431) (i := 3) dL_law__2431 rfl rfl ?_
  refine m_h6 (y' := mL_reign) (pc := 2432) dL_law__2432 ml_L_240 ok_L_reign sa_L_reign rfl rfl (c_L_reign hN (hC g (d + 29) I J n w _ hc hn (fun v1 I1 e1 hc1 f1 => ⟨I1, J, n, w, rfl, kt_s ?_⟩) (fun k1 I1 e1 hc1 f1 => ?_)))
  · refine s_istore (pc := 2435) (i := 5) dL_law__2435 (Nat.le_of_ble_eq_true rfl) ?_
    dsimp only [List.set, List.filter]
    refine s_aload_n (pc := 2437) (i := 2) dL_law__2437 rfl rfl ?_
    refine s_aload_n (pc := 2438) (i := 0) dL_law__2438 rfl rfl ?_
    refine s_iload (pc := 2439) (i := 4) dL_law__2439 rfl ?_
    refine m_ic (pc := 2441) (v := 1) dL_law__2441 rfl ?_
    refine s_iadd (pc := 2442) dL_law__2442 ?_
    refine m_nm (v' := nI ((10 * q) + 1)) (nI_add (10 * q) 1) ?_
    refine s_sld (pc := 2443) dL_law__2443 (vp_in_nI (n := (10 * q) + 1) (by omega) (by omega)) ?_
    refine m_nm (v' := gx g (10 * q + 1)) (rdX (by omega)) ?_
    refine s_aload_n (pc := 2444) (i := 0) dL_law__2444 rfl rfl ?_
    refine s_iload (pc := 2445) (i := 4) dL_law__2445 rfl ?_
    refine m_ic (pc := 2447) (v := 2) dL_law__2447 rfl ?_
    refine s_iadd (pc := 2448) dL_law__2448 ?_
    refine m_nm (v' := nI ((10 * q) + 2)) (nI_add (10 * q) 2) ?_
    refine s_sld (pc := 2449) dL_law__2449 (vp_in_nI (n := (10 * q) + 2) (by omega) (by omega)) ?_
    refine m_nm (v' := gx g (10 * q + 2)) (rdX (by omega)) ?_
    refine s_aload_n (pc := 2450) (i := 0) dL_law__2450 rfl rfl ?_
    refine s_iload (pc := 2451) (i := 4) dL_law__2451 rfl ?_
    refine m_ic (pc := 2453) (v := 3) dL_law__2453 rfl ?_
    refine s_iadd (pc := 2454) dL_law__2454 ?_
    refine m_nm (v' := nI ((10 * q) + 3)) (nI_add (10 * q) 3) ?_
    refine s_sld (pc := 2455) dL_law__2455 (vp_in_nI (n := (10 * q) + 3) (by omega) (by omega)) ?_
    refine m_nm (v' := gx g (10 * q + 3)) (rdX (by omega)) ?_
    refine s_aload_n (pc := 2456) (i := 0) dL_law__2456 rfl rfl ?_
    refine s_iload (pc := 2457) (i := 4) dL_law__2457 rfl ?_
    refine m_ic (pc := 2459) (v := 4) dL_law__2459 rfl ?_
    refine s_iadd (pc := 2460) dL_law__2460 ?_
    refine m_nm (v' := nI ((10 * q) + 4)) (nI_add (10 * q) 4) ?_
    refine s_sld (pc := 2461) dL_law__2461 (vp_in_nI (n := (10 * q) + 4) (by omega) (by omega)) ?_
    refine m_nm (v' := gx g (10 * q + 4)) (rdX (by omega)) ?_
    refine m_v4 (pc := 2462) dL_law__2462 lk_L_242 ok_X12_reign (rcO o_534 (by decide) rfl) rfl rfl (hM g (d + 31) I1 (upJ J 560 0 v1.toInt64) n w _ (mI_c hm f1) (fun v2 I2 e2 hm2 f2 h0 => kt_s ?_) (fun k2 I2 e2 _ _ _ => (by rw [e1] at e2; cases e2)))
    · have ev : v1 = v2 := by rw [e1] at e2; cases e2; rfl
      subst ev
      refine s_istore (pc := 2465) (i := 6) dL_law__2465 (Nat.le_of_ble_eq_true rfl) ?_
      dsimp only [List.set, List.filter]
      refine s_aload_n (pc := 2467) (i := 2) dL_law__2467 rfl rfl ?_
      refine m_v0 (pc := 2468) dL_law__2468 lk_L_134 ok_X12_thrown (rcO o_534 (by decide) rfl) rfl rfl (c_X12_thrown h0 (kt_s ?_))
      · refine s_iload (pc := 2471) (i := 5) dL_law__2471 rfl ?_
        refine s_iceq (pc := 2473) (tgt := 2478) dL_law__2473 rfl (fun h2473 => ?_) (fun h2473 => absurd h2473 (by decide))
        refine s_iload (pc := 2478) (i := 5) dL_law__2478 rfl ?_
        refine s_ifne (pc := 2480) (tgt := 2495) dL_law__2480 rfl (fun h2480 => absurd h2480 (by decide)) (fun h2480 => ?_)
        refine s_aload_n (pc := 2483) (i := 3) dL_law__2483 rfl rfl ?_
        refine m_ic (pc := 2484) (v := 0) dL_law__2484 rfl ?_
        refine m_la (pc := 2485) dL_law__2485 a_560 (vp_in_nI (n := 0) (by omega) (by decide)) ?_
        refine m_nl (v' := v1.toInt64) (uJ_s) ?_
        refine s_iload (pc := 2486) (i := 6) dL_law__2486 rfl ?_
        refine s_i2l (pc := 2488) dL_law__2488 ?_
        refine s_lcmp (pc := 2489) dL_law__2489 ?_
        refine m_nm (v' := 0) (lg_cc) ?_
        refine s_ifeq (pc := 2490) (tgt := 2495) dL_law__2490 rfl (fun h2490 => ?_) (fun h2490 => absurd h2490 (by decide))
        refine s_goto (pc := 2495) (tgt := 2692) dL_law__2495 rfl ?_
        exact hK x1 I2 _ n w _ _ _ _ hg1 (cI_m hg1 hc1 f2) hm2 (by omega) (by omega)
  · obtain ⟨c1, ec1, nc1⟩ := hA k1 e1
    refine ⟨c1, ec1, kt_s ?_⟩
    refine s_istore (pc := 2435) (i := 5) dL_law__2435 (Nat.le_of_ble_eq_true rfl) ?_
    dsimp only [List.set, List.filter]
    refine s_aload_n (pc := 2437) (i := 2) dL_law__2437 rfl rfl ?_
    refine s_aload_n (pc := 2438) (i := 0) dL_law__2438 rfl rfl ?_
    refine s_iload (pc := 2439) (i := 4) dL_law__2439 rfl ?_
    refine m_ic (pc := 2441) (v := 1) dL_law__2441 rfl ?_
    refine s_iadd (pc := 2442) dL_law__2442 ?_
    refine m_nm (v' := nI ((10 * q) + 1)) (nI_add (10 * q) 1) ?_
    refine s_sld (pc := 2443) dL_law__2443 (vp_in_nI (n := (10 * q) + 1) (by omega) (by omega)) ?_
    refine m_nm (v' := gx g (10 * q + 1)) (rdX (by omega)) ?_
    refine s_aload_n (pc := 2444) (i := 0) dL_law__2444 rfl rfl ?_
    refine s_iload (pc := 2445) (i := 4) dL_law__2445 rfl ?_
    refine m_ic (pc := 2447) (v := 2) dL_law__2447 rfl ?_
    refine s_iadd (pc := 2448) dL_law__2448 ?_
    refine m_nm (v' := nI ((10 * q) + 2)) (nI_add (10 * q) 2) ?_
    refine s_sld (pc := 2449) dL_law__2449 (vp_in_nI (n := (10 * q) + 2) (by omega) (by omega)) ?_
    refine m_nm (v' := gx g (10 * q + 2)) (rdX (by omega)) ?_
    refine s_aload_n (pc := 2450) (i := 0) dL_law__2450 rfl rfl ?_
    refine s_iload (pc := 2451) (i := 4) dL_law__2451 rfl ?_
    refine m_ic (pc := 2453) (v := 3) dL_law__2453 rfl ?_
    refine s_iadd (pc := 2454) dL_law__2454 ?_
    refine m_nm (v' := nI ((10 * q) + 3)) (nI_add (10 * q) 3) ?_
    refine s_sld (pc := 2455) dL_law__2455 (vp_in_nI (n := (10 * q) + 3) (by omega) (by omega)) ?_
    refine m_nm (v' := gx g (10 * q + 3)) (rdX (by omega)) ?_
    refine s_aload_n (pc := 2456) (i := 0) dL_law__2456 rfl rfl ?_
    refine s_iload (pc := 2457) (i := 4) dL_law__2457 rfl ?_
    refine m_ic (pc := 2459) (v := 4) dL_law__2459 rfl ?_
    refine s_iadd (pc := 2460) dL_law__2460 ?_
    refine m_nm (v' := nI ((10 * q) + 4)) (nI_add (10 * q) 4) ?_
    refine s_sld (pc := 2461) dL_law__2461 (vp_in_nI (n := (10 * q) + 4) (by omega) (by omega)) ?_
    refine m_nm (v' := gx g (10 * q + 4)) (rdX (by omega)) ?_
    refine m_v4 (pc := 2462) dL_law__2462 lk_L_242 ok_X12_reign (rcO o_534 (by decide) rfl) rfl rfl (hM g (d + 31) I1 J (n + 1) (w + 6) _ (mI_c hm f1) (fun v2 I2 e2 _ _ _ => (by rw [e1] at e2; cases e2)) (fun k2 I2 e2 hm2 f2 h0 => kt_s ?_))
    · have ek : k1 = k2 := by rw [e1] at e2; cases e2; rfl
      subst ek
      have h0 : I2 534 0 = c1 := h0.trans (by rw [ec1]; rfl)
      refine s_istore (pc := 2465) (i := 6) dL_law__2465 (Nat.le_of_ble_eq_true rfl) ?_
      dsimp only [List.set, List.filter]
      refine s_aload_n (pc := 2467) (i := 2) dL_law__2467 rfl rfl ?_
      refine m_v0 (pc := 2468) dL_law__2468 lk_L_134 ok_X12_thrown (rcO o_534 (by decide) rfl) rfl rfl (c_X12_thrown h0 (kt_s ?_))
      refine s_iload (pc := 2471) (i := 5) dL_law__2471 rfl ?_
      refine s_iceq (pc := 2473) (tgt := 2478) dL_law__2473 rfl (fun h2473 => ?_) (fun h2473 => absurd (rfl) h2473)
      refine s_iload (pc := 2478) (i := 5) dL_law__2478 rfl ?_
      refine s_ifne (pc := 2480) (tgt := 2495) dL_law__2480 rfl (fun h2480 => ?_) (fun h2480 => absurd h2480 (nc1))
      refine s_goto (pc := 2495) (tgt := 2692) dL_law__2495 rfl ?_
      exact hK x1 I2 J (n + 1) (w + 6) _ _ _ _ hg1 (cI_m hg1 hc1 f2) hm2 (by omega) (by omega)
theorem lw_35 {x : gX} {q : Nat} {v5 v6 v7 : Value} (hN : aNx g) (hL : 10 * q + 10 ≤ gL g) (hL2 : gL g ≤ 5120) (hx : gOk x) (hc : cI x I) (hm : mI x I) (hn : n + 1 ≤ 600000 ∧ w + 6 ≤ 7000000) (hK : ∀ (x' : gX) (I' : Nat → Nat → Int32) (J' : Nat → Nat → Int64) (n' w' : Nat) (v5 v6 v7 : Value) (ll : List (Nat × Int64)), gOk x' → cI x' I' → mI x' I' → n' ≤ n + 1 → w' ≤ w + 6 → Rn g (d + 40) mL_law_ 2692 [.ref 0, .ref 1, .ref 534, .ref 560, .int (nI (10 * q)), v5, v6, v7] ll [] (Z I' J' n' w') Q) : Rn g (d + 40) mL_law_ 2498 [.ref 0, .ref 1, .ref 534, .ref 560, .int (nI (10 * q)), v5, v6, v7] [] [] (Z I J n w) Q := by
  obtain ⟨x1, A1, hg1, hA, hC, hM⟩ := pr_span (x := gx g (10 * q + 1)) (y := gx g (10 * q + 2)) (z := gx g (10 * q + 3)) (u := gx g (10 * q + 4)) (v5 := gx g (10 * q + 5)) (v6 := gx g (10 * q + 6)) hx
  refine s_aload_n (pc := 2498) (i := 1) dL_law__2498 rfl rfl ?_
  refine s_aload_n (pc := 2499) (i := 0) dL_law__2499 rfl rfl ?_
  refine s_iload (pc := 2500) (i := 4) dL_law__2500 rfl ?_
  refine m_ic (pc := 2502) (v := 1) dL_law__2502 rfl ?_
  refine s_iadd (pc := 2503) dL_law__2503 ?_
  refine m_nm (v' := nI ((10 * q) + 1)) (nI_add (10 * q) 1) ?_
  refine s_sld (pc := 2504) dL_law__2504 (vp_in_nI (n := (10 * q) + 1) (by omega) (by omega)) ?_
  refine m_nm (v' := gx g (10 * q + 1)) (rdX (by omega)) ?_
  refine s_aload_n (pc := 2505) (i := 0) dL_law__2505 rfl rfl ?_
  refine s_iload (pc := 2506) (i := 4) dL_law__2506 rfl ?_
  refine m_ic (pc := 2508) (v := 2) dL_law__2508 rfl ?_
  refine s_iadd (pc := 2509) dL_law__2509 ?_
  refine m_nm (v' := nI ((10 * q) + 2)) (nI_add (10 * q) 2) ?_
  refine s_sld (pc := 2510) dL_law__2510 (vp_in_nI (n := (10 * q) + 2) (by omega) (by omega)) ?_
  refine m_nm (v' := gx g (10 * q + 2)) (rdX (by omega)) ?_
  refine s_aload_n (pc := 2511) (i := 0) dL_law__2511 rfl rfl ?_
  refine s_iload (pc := 2512) (i := 4) dL_law__2512 rfl ?_
  refine m_ic (pc := 2514) (v := 3) dL_law__2514 rfl ?_
  refine s_iadd (pc := 2515) dL_law__2515 ?_
  refine m_nm (v' := nI ((10 * q) + 3)) (nI_add (10 * q) 3) ?_
  refine s_sld (pc := 2516) dL_law__2516 (vp_in_nI (n := (10 * q) + 3) (by omega) (by omega)) ?_
  refine m_nm (v' := gx g (10 * q + 3)) (rdX (by omega)) ?_
  refine s_aload_n (pc := 2517) (i := 0) dL_law__2517 rfl rfl ?_
  refine s_iload (pc := 2518) (i := 4) dL_law__2518 rfl ?_
  refine m_ic (pc := 2520) (v := 4) dL_law__2520 rfl ?_
  refine s_iadd (pc := 2521) dL_law__2521 ?_
  refine m_nm (v' := nI ((10 * q) + 4)) (nI_add (10 * q) 4) ?_
  refine s_sld (pc := 2522) dL_law__2522 (vp_in_nI (n := (10 * q) + 4) (by omega) (by omega)) ?_
  refine m_nm (v' := gx g (10 * q + 4)) (rdX (by omega)) ?_
  refine s_aload_n (pc := 2523) (i := 0) dL_law__2523 rfl rfl ?_
  refine s_iload (pc := 2524) (i := 4) dL_law__2524 rfl ?_
  refine m_ic (pc := 2526) (v := 5) dL_law__2526 rfl ?_
  refine s_iadd (pc := 2527) dL_law__2527 ?_
  refine m_nm (v' := nI ((10 * q) + 5)) (nI_add (10 * q) 5) ?_
  refine s_sld (pc := 2528) dL_law__2528 (vp_in_nI (n := (10 * q) + 5) (by omega) (by omega)) ?_
  refine m_nm (v' := gx g (10 * q + 5)) (rdX (by omega)) ?_
  refine s_aload_n (pc := 2529) (i := 0) dL_law__2529 rfl rfl ?_
  refine s_iload (pc := 2530) (i := 4) dL_law__2530 rfl ?_
  refine m_bi (pc := 2532) (v := 6) dL_law__2532 rfl ?_
  refine s_iadd (pc := 2534) dL_law__2534 ?_
  refine m_nm (v' := nI ((10 * q) + 6)) (nI_add (10 * q) 6) ?_
  refine s_sld (pc := 2535) dL_law__2535 (vp_in_nI (n := (10 * q) + 6) (by omega) (by omega)) ?_
  refine m_nm (v' := gx g (10 * q + 6)) (rdX (by omega)) ?_
  refine s_aload_n (pc := 2536) (i := 3) dL_law__2536 rfl rfl ?_
  refine m_h8 (y' := mL_span) (pc := 2537) dL_law__2537 ml_L_243 ok_L_span sa_L_span rfl rfl (c_L_span hN (hC g (d + 29) I J n w _ hc hn (fun v1 I1 e1 hc1 f1 => ⟨I1, J, n, w, rfl, kt_s ?_⟩) (fun k1 I1 e1 hc1 f1 => ?_)))
  · refine s_istore (pc := 2540) (i := 5) dL_law__2540 (Nat.le_of_ble_eq_true rfl) ?_
    dsimp only [List.set, List.filter]
    refine s_aload_n (pc := 2542) (i := 2) dL_law__2542 rfl rfl ?_
    refine s_aload_n (pc := 2543) (i := 0) dL_law__2543 rfl rfl ?_
    refine s_iload (pc := 2544) (i := 4) dL_law__2544 rfl ?_
    refine m_ic (pc := 2546) (v := 1) dL_law__2546 rfl ?_
    refine s_iadd (pc := 2547) dL_law__2547 ?_
    refine m_nm (v' := nI ((10 * q) + 1)) (nI_add (10 * q) 1) ?_
    refine s_sld (pc := 2548) dL_law__2548 (vp_in_nI (n := (10 * q) + 1) (by omega) (by omega)) ?_
    refine m_nm (v' := gx g (10 * q + 1)) (rdX (by omega)) ?_
    refine s_aload_n (pc := 2549) (i := 0) dL_law__2549 rfl rfl ?_
    refine s_iload (pc := 2550) (i := 4) dL_law__2550 rfl ?_
    refine m_ic (pc := 2552) (v := 2) dL_law__2552 rfl ?_
    refine s_iadd (pc := 2553) dL_law__2553 ?_
    refine m_nm (v' := nI ((10 * q) + 2)) (nI_add (10 * q) 2) ?_
    refine s_sld (pc := 2554) dL_law__2554 (vp_in_nI (n := (10 * q) + 2) (by omega) (by omega)) ?_
    refine m_nm (v' := gx g (10 * q + 2)) (rdX (by omega)) ?_
    refine s_aload_n (pc := 2555) (i := 0) dL_law__2555 rfl rfl ?_
    refine s_iload (pc := 2556) (i := 4) dL_law__2556 rfl ?_
    refine m_ic (pc := 2558) (v := 3) dL_law__2558 rfl ?_
    refine s_iadd (pc := 2559) dL_law__2559 ?_
    refine m_nm (v' := nI ((10 * q) + 3)) (nI_add (10 * q) 3) ?_
    refine s_sld (pc := 2560) dL_law__2560 (vp_in_nI (n := (10 * q) + 3) (by omega) (by omega)) ?_
    refine m_nm (v' := gx g (10 * q + 3)) (rdX (by omega)) ?_
    refine s_aload_n (pc := 2561) (i := 0) dL_law__2561 rfl rfl ?_
    refine s_iload (pc := 2562) (i := 4) dL_law__2562 rfl ?_
    refine m_ic (pc := 2564) (v := 4) dL_law__2564 rfl ?_
    refine s_iadd (pc := 2565) dL_law__2565 ?_
    refine m_nm (v' := nI ((10 * q) + 4)) (nI_add (10 * q) 4) ?_
    refine s_sld (pc := 2566) dL_law__2566 (vp_in_nI (n := (10 * q) + 4) (by omega) (by omega)) ?_
    refine m_nm (v' := gx g (10 * q + 4)) (rdX (by omega)) ?_
    refine s_aload_n (pc := 2567) (i := 0) dL_law__2567 rfl rfl ?_
    refine s_iload (pc := 2568) (i := 4) dL_law__2568 rfl ?_
    refine m_ic (pc := 2570) (v := 5) dL_law__2570 rfl ?_
    refine s_iadd (pc := 2571) dL_law__2571 ?_
    refine m_nm (v' := nI ((10 * q) + 5)) (nI_add (10 * q) 5) ?_
    refine s_sld (pc := 2572) dL_law__2572 (vp_in_nI (n := (10 * q) + 5) (by omega) (by omega)) ?_
    refine m_nm (v' := gx g (10 * q + 5)) (rdX (by omega)) ?_
    refine s_aload_n (pc := 2573) (i := 0) dL_law__2573 rfl rfl ?_
    refine s_iload (pc := 2574) (i := 4) dL_law__2574 rfl ?_
    refine m_bi (pc := 2576) (v := 6) dL_law__2576 rfl ?_
    refine s_iadd (pc := 2578) dL_law__2578 ?_
    refine m_nm (v' := nI ((10 * q) + 6)) (nI_add (10 * q) 6) ?_
    refine s_sld (pc := 2579) dL_law__2579 (vp_in_nI (n := (10 * q) + 6) (by omega) (by omega)) ?_
    refine m_nm (v' := gx g (10 * q + 6)) (rdX (by omega)) ?_
    refine m_v6 (pc := 2580) dL_law__2580 lk_L_246 ok_X12_span (rcO o_534 (by decide) rfl) rfl rfl (hM g (d + 31) I1 (upJ J 560 0 v1.toInt64) n w _ (mI_c hm f1) (fun v2 I2 e2 hm2 f2 h0 => kt_s ?_) (fun k2 I2 e2 _ _ _ => (by rw [e1] at e2; cases e2)))
    · have ev : v1 = v2 := by rw [e1] at e2; cases e2; rfl
      subst ev
      refine s_istore (pc := 2583) (i := 6) dL_law__2583 (Nat.le_of_ble_eq_true rfl) ?_
      dsimp only [List.set, List.filter]
      refine s_aload_n (pc := 2585) (i := 2) dL_law__2585 rfl rfl ?_
      refine m_v0 (pc := 2586) dL_law__2586 lk_L_134 ok_X12_thrown (rcO o_534 (by decide) rfl) rfl rfl (c_X12_thrown h0 (kt_s ?_))
      · refine s_iload (pc := 2589) (i := 5) dL_law__2589 rfl ?_
        refine s_iceq (pc := 2591) (tgt := 2596) dL_law__2591 rfl (fun h2591 => ?_) (fun h2591 => absurd h2591 (by decide))
        refine s_iload (pc := 2596) (i := 5) dL_law__2596 rfl ?_
        refine s_ifne (pc := 2598) (tgt := 2613) dL_law__2598 rfl (fun h2598 => absurd h2598 (by decide)) (fun h2598 => ?_)
        refine s_aload_n (pc := 2601) (i := 3) dL_law__2601 rfl rfl ?_
        refine m_ic (pc := 2602) (v := 0) dL_law__2602 rfl ?_
        refine m_la (pc := 2603) dL_law__2603 a_560 (vp_in_nI (n := 0) (by omega) (by decide)) ?_
        refine m_nl (v' := v1.toInt64) (uJ_s) ?_
        refine s_iload (pc := 2604) (i := 6) dL_law__2604 rfl ?_
        refine s_i2l (pc := 2606) dL_law__2606 ?_
        refine s_lcmp (pc := 2607) dL_law__2607 ?_
        refine m_nm (v' := 0) (lg_cc) ?_
        refine s_ifeq (pc := 2608) (tgt := 2613) dL_law__2608 rfl (fun h2608 => ?_) (fun h2608 => absurd h2608 (by decide))
        refine s_goto (pc := 2613) (tgt := 2692) dL_law__2613 rfl ?_
        exact hK x1 I2 _ n w _ _ _ _ hg1 (cI_m hg1 hc1 f2) hm2 (by omega) (by omega)
  · obtain ⟨c1, ec1, nc1⟩ := hA k1 e1
    refine ⟨c1, ec1, kt_s ?_⟩
    refine s_istore (pc := 2540) (i := 5) dL_law__2540 (Nat.le_of_ble_eq_true rfl) ?_
    dsimp only [List.set, List.filter]
    refine s_aload_n (pc := 2542) (i := 2) dL_law__2542 rfl rfl ?_
    refine s_aload_n (pc := 2543) (i := 0) dL_law__2543 rfl rfl ?_
    refine s_iload (pc := 2544) (i := 4) dL_law__2544 rfl ?_
    refine m_ic (pc := 2546) (v := 1) dL_law__2546 rfl ?_
    refine s_iadd (pc := 2547) dL_law__2547 ?_
    refine m_nm (v' := nI ((10 * q) + 1)) (nI_add (10 * q) 1) ?_
    refine s_sld (pc := 2548) dL_law__2548 (vp_in_nI (n := (10 * q) + 1) (by omega) (by omega)) ?_
    refine m_nm (v' := gx g (10 * q + 1)) (rdX (by omega)) ?_
    refine s_aload_n (pc := 2549) (i := 0) dL_law__2549 rfl rfl ?_
    refine s_iload (pc := 2550) (i := 4) dL_law__2550 rfl ?_
    refine m_ic (pc := 2552) (v := 2) dL_law__2552 rfl ?_
    refine s_iadd (pc := 2553) dL_law__2553 ?_
    refine m_nm (v' := nI ((10 * q) + 2)) (nI_add (10 * q) 2) ?_
    refine s_sld (pc := 2554) dL_law__2554 (vp_in_nI (n := (10 * q) + 2) (by omega) (by omega)) ?_
    refine m_nm (v' := gx g (10 * q + 2)) (rdX (by omega)) ?_
    refine s_aload_n (pc := 2555) (i := 0) dL_law__2555 rfl rfl ?_
    refine s_iload (pc := 2556) (i := 4) dL_law__2556 rfl ?_
    refine m_ic (pc := 2558) (v := 3) dL_law__2558 rfl ?_
    refine s_iadd (pc := 2559) dL_law__2559 ?_
    refine m_nm (v' := nI ((10 * q) + 3)) (nI_add (10 * q) 3) ?_
    refine s_sld (pc := 2560) dL_law__2560 (vp_in_nI (n := (10 * q) + 3) (by omega) (by omega)) ?_
    refine m_nm (v' := gx g (10 * q + 3)) (rdX (by omega)) ?_
    refine s_aload_n (pc := 2561) (i := 0) dL_law__2561 rfl rfl ?_
    refine s_iload (pc := 2562) (i := 4) dL_law__2562 rfl ?_
    refine m_ic (pc := 2564) (v := 4) dL_law__2564 rfl ?_
    refine s_iadd (pc := 2565) dL_law__2565 ?_
    refine m_nm (v' := nI ((10 * q) + 4)) (nI_add (10 * q) 4) ?_
    refine s_sld (pc := 2566) dL_law__2566 (vp_in_nI (n := (10 * q) + 4) (by omega) (by omega)) ?_
    refine m_nm (v' := gx g (10 * q + 4)) (rdX (by omega)) ?_
    refine s_aload_n (pc := 2567) (i := 0) dL_law__2567 rfl rfl ?_
    refine s_iload (pc := 2568) (i := 4) dL_law__2568 rfl ?_
    refine m_ic (pc := 2570) (v := 5) dL_law__2570 rfl ?_
    refine s_iadd (pc := 2571) dL_law__2571 ?_
    refine m_nm (v' := nI ((10 * q) + 5)) (nI_add (10 * q) 5) ?_
    refine s_sld (pc := 2572) dL_law__2572 (vp_in_nI (n := (10 * q) + 5) (by omega) (by omega)) ?_
    refine m_nm (v' := gx g (10 * q + 5)) (rdX (by omega)) ?_
    refine s_aload_n (pc := 2573) (i := 0) dL_law__2573 rfl rfl ?_
    refine s_iload (pc := 2574) (i := 4) dL_law__2574 rfl ?_
    refine m_bi (pc := 2576) (v := 6) dL_law__2576 rfl ?_
    refine s_iadd (pc := 2578) dL_law__2578 ?_
    refine m_nm (v' := nI ((10 * q) + 6)) (nI_add (10 * q) 6) ?_
    refine s_sld (pc := 2579) dL_law__2579 (vp_in_nI (n := (10 * q) + 6) (by omega) (by omega)) ?_
    refine m_nm (v' := gx g (10 * q + 6)) (rdX (by omega)) ?_
    refine m_v6 (pc := 2580) dL_law__2580 lk_L_246 ok_X12_span (rcO o_534 (by decide) rfl) rfl rfl (hM g (d + 31) I1 J (n + 1) (w + 6) _ (mI_c hm f1) (fun v2 I2 e2 _ _ _ => (by rw [e1] at e2; cases e2)) (fun k2 I2 e2 hm2 f2 h0 => kt_s ?_))
    · have ek : k1 = k2 := by rw [e1] at e2; cases e2; rfl
      subst ek
      have h0 : I2 534 0 = c1 := h0.trans (by rw [ec1]; rfl)
      refine s_istore (pc := 2583) (i := 6) dL_law__2583 (Nat.le_of_ble_eq_true rfl) ?_
      dsimp only [List.set, List.filter]
      refine s_aload_n (pc := 2585) (i := 2) dL_law__2585 rfl rfl ?_
      refine m_v0 (pc := 2586) dL_law__2586 lk_L_134 ok_X12_thrown (rcO o_534 (by decide) rfl) rfl rfl (c_X12_thrown h0 (kt_s ?_))
      refine s_iload (pc := 2589) (i := 5) dL_law__2589 rfl ?_
      refine s_iceq (pc := 2591) (tgt := 2596) dL_law__2591 rfl (fun h2591 => ?_) (fun h2591 => absurd (rfl) h2591)
      refine s_iload (pc := 2596) (i := 5) dL_law__2596 rfl ?_
      refine s_ifne (pc := 2598) (tgt := 2613) dL_law__2598 rfl (fun h2598 => ?_) (fun h2598 => absurd h2598 (nc1))
      refine s_goto (pc := 2613) (tgt := 2692) dL_law__2613 rfl ?_
      exact hK x1 I2 J (n + 1) (w + 6) _ _ _ _ hg1 (cI_m hg1 hc1 f2) hm2 (by omega) (by omega)
theorem lw_36 {x : gX} {q : Nat} {v5 v6 v7 : Value} (hN : aNx g) (hL : 10 * q + 10 ≤ gL g) (hL2 : gL g ≤ 5120) (hx : gOk x) (hc : cI x I) (hm : mI x I) (hn : n + 1 ≤ 600000 ∧ w + 6 ≤ 7000000) (hK : ∀ (x' : gX) (I' : Nat → Nat → Int32) (J' : Nat → Nat → Int64) (n' w' : Nat) (v5 v6 v7 : Value) (ll : List (Nat × Int64)), gOk x' → cI x' I' → mI x' I' → n' ≤ n + 1 → w' ≤ w + 6 → Rn g (d + 40) mL_law_ 2692 [.ref 0, .ref 1, .ref 534, .ref 560, .int (nI (10 * q)), v5, v6, v7] ll [] (Z I' J' n' w') Q) : Rn g (d + 40) mL_law_ 2616 [.ref 0, .ref 1, .ref 534, .ref 560, .int (nI (10 * q)), v5, v6, v7] [] [] (Z I J n w) Q := by
  obtain ⟨x1, v1, hg1, hC, hM⟩ := pr_image  hx
  refine s_aload_n (pc := 2616) (i := 1) dL_law__2616 rfl rfl ?_
  refine m_v0 (pc := 2617) dL_law__2617 lk_L_247 ok_X11_image (rcO o_1 (by decide) rfl) rfl rfl (hC g (d + 36) I J n w _ hc (fun I1 hc1 f1 => kt_s ?_))
  refine s_aload_n (pc := 2620) (i := 2) dL_law__2620 rfl rfl ?_
  refine m_v0 (pc := 2621) dL_law__2621 lk_L_250 ok_X12_image (rcO o_534 (by decide) rfl) rfl rfl (hM g (d + 37) I1 J n w _ (mI_c hm f1) (fun I2 hm2 f2 => kt_s ?_))
  refine s_iceq (pc := 2624) (tgt := 2692) dL_law__2624 rfl (fun h2624 => ?_) (fun h2624 => absurd (rfl) h2624)
  exact hK x1 I2 J n w _ _ _ _ hg1 (cI_m hg1 hc1 f2) hm2 (by omega) (by omega)
theorem lw_37 {x : gX} {q : Nat} {v5 v6 v7 : Value} (hN : aNx g) (hL : 10 * q + 10 ≤ gL g) (hL2 : gL g ≤ 5120) (hx : gOk x) (hc : cI x I) (hm : mI x I) (hn : n + 1 ≤ 600000 ∧ w + 6 ≤ 7000000) (hK : ∀ (x' : gX) (I' : Nat → Nat → Int32) (J' : Nat → Nat → Int64) (n' w' : Nat) (v5 v6 v7 : Value) (ll : List (Nat × Int64)), gOk x' → cI x' I' → mI x' I' → n' ≤ n + 1 → w' ≤ w + 6 → Rn g (d + 40) mL_law_ 2692 [.ref 0, .ref 1, .ref 534, .ref 560, .int (nI (10 * q)), v5, v6, v7] ll [] (Z I' J' n' w') Q) : Rn g (d + 40) mL_law_ 2629 [.ref 0, .ref 1, .ref 534, .ref 560, .int (nI (10 * q)), v5, v6, v7] [] [] (Z I J n w) Q := by
  obtain ⟨x1, v1, hg1, hC, hM⟩ := pr_restore  hx
  refine s_aload_n (pc := 2629) (i := 1) dL_law__2629 rfl rfl ?_
  refine m_v0 (pc := 2630) dL_law__2630 lk_L_251 ok_X11_restore (rcO o_1 (by decide) rfl) rfl rfl (hC g (d + 36) I J n w _ hc (fun I1 hc1 f1 => kt_s ?_))
  refine s_aload_n (pc := 2633) (i := 2) dL_law__2633 rfl rfl ?_
  refine m_v0 (pc := 2634) dL_law__2634 lk_L_254 ok_X12_restore (rcO o_534 (by decide) rfl) rfl rfl (hM g (d + 37) I1 J n w _ (mI_c hm f1) (fun I2 hm2 f2 => kt_s ?_))
  refine s_iceq (pc := 2637) (tgt := 2692) dL_law__2637 rfl (fun h2637 => ?_) (fun h2637 => absurd (rfl) h2637)
  exact hK x1 I2 J n w _ _ _ _ hg1 (cI_m hg1 hc1 f2) hm2 (by omega) (by omega)
theorem lw_38 {x : gX} {q : Nat} {v5 v6 v7 : Value} (hN : aNx g) (hL : 10 * q + 10 ≤ gL g) (hL2 : gL g ≤ 5120) (hx : gOk x) (hc : cI x I) (hm : mI x I) (hn : n + 1 ≤ 600000 ∧ w + 6 ≤ 7000000) (hK : ∀ (x' : gX) (I' : Nat → Nat → Int32) (J' : Nat → Nat → Int64) (n' w' : Nat) (v5 v6 v7 : Value) (ll : List (Nat × Int64)), gOk x' → cI x' I' → mI x' I' → n' ≤ n + 1 → w' ≤ w + 6 → Rn g (d + 40) mL_law_ 2692 [.ref 0, .ref 1, .ref 534, .ref 560, .int (nI (10 * q)), v5, v6, v7] ll [] (Z I' J' n' w') Q) : Rn g (d + 40) mL_law_ 2642 [.ref 0, .ref 1, .ref 534, .ref 560, .int (nI (10 * q)), v5, v6, v7] [] [] (Z I J n w) Q := by
  obtain ⟨x1, v1, hg1, hC, hM⟩ := pr_status (x := gx g (10 * q + 1)) hx
  refine s_aload_n (pc := 2642) (i := 1) dL_law__2642 rfl rfl ?_
  refine s_aload_n (pc := 2643) (i := 0) dL_law__2643 rfl rfl ?_
  refine s_iload (pc := 2644) (i := 4) dL_law__2644 rfl ?_
  refine m_ic (pc := 2646) (v := 1) dL_law__2646 rfl ?_
  refine s_iadd (pc := 2647) dL_law__2647 ?_
  refine m_nm (v' := nI ((10 * q) + 1)) (nI_add (10 * q) 1) ?_
  refine s_sld (pc := 2648) dL_law__2648 (vp_in_nI (n := (10 * q) + 1) (by omega) (by omega)) ?_
  refine m_nm (v' := gx g (10 * q + 1)) (rdX (by omega)) ?_
  refine m_v1 (pc := 2649) dL_law__2649 lk_L_255 ok_X11_status (rcO o_1 (by decide) rfl) rfl rfl (hC g (d + 39) I J n w _ hc (fun I1 hc1 f1 => kt_s ?_))
  refine s_aload_n (pc := 2652) (i := 2) dL_law__2652 rfl rfl ?_
  refine s_aload_n (pc := 2653) (i := 0) dL_law__2653 rfl rfl ?_
  refine s_iload (pc := 2654) (i := 4) dL_law__2654 rfl ?_
  refine m_ic (pc := 2656) (v := 1) dL_law__2656 rfl ?_
  refine s_iadd (pc := 2657) dL_law__2657 ?_
  refine m_nm (v' := nI ((10 * q) + 1)) (nI_add (10 * q) 1) ?_
  refine s_sld (pc := 2658) dL_law__2658 (vp_in_nI (n := (10 * q) + 1) (by omega) (by omega)) ?_
  refine m_nm (v' := gx g (10 * q + 1)) (rdX (by omega)) ?_
  refine m_v1 (pc := 2659) dL_law__2659 lk_L_258 ok_X12_status (rcO o_534 (by decide) rfl) rfl rfl (hM g (d + 38) I1 J n w _ (mI_c hm f1) (fun I2 hm2 f2 => kt_s ?_))
  refine s_iceq (pc := 2662) (tgt := 2692) dL_law__2662 rfl (fun h2662 => ?_) (fun h2662 => absurd (rfl) h2662)
  exact hK x1 I2 J n w _ _ _ _ hg1 (cI_m hg1 hc1 f2) hm2 (by omega) (by omega)
theorem lw_39 {x : gX} {q : Nat} {v5 v6 v7 : Value} (hN : aNx g) (hL : 10 * q + 10 ≤ gL g) (hL2 : gL g ≤ 5120) (hx : gOk x) (hc : cI x I) (hm : mI x I) (hn : n + 1 ≤ 600000 ∧ w + 6 ≤ 7000000) (hK : ∀ (x' : gX) (I' : Nat → Nat → Int32) (J' : Nat → Nat → Int64) (n' w' : Nat) (v5 v6 v7 : Value) (ll : List (Nat × Int64)), gOk x' → cI x' I' → mI x' I' → n' ≤ n + 1 → w' ≤ w + 6 → Rn g (d + 40) mL_law_ 2692 [.ref 0, .ref 1, .ref 534, .ref 560, .int (nI (10 * q)), v5, v6, v7] ll [] (Z I' J' n' w') Q) : Rn g (d + 40) mL_law_ 2667 [.ref 0, .ref 1, .ref 534, .ref 560, .int (nI (10 * q)), v5, v6, v7] [] [] (Z I J n w) Q := by
  obtain ⟨x1, v1, hg1, hC, hM⟩ := pr_count (x := gx g (10 * q + 1)) hx
  refine s_aload_n (pc := 2667) (i := 1) dL_law__2667 rfl rfl ?_
  refine s_aload_n (pc := 2668) (i := 0) dL_law__2668 rfl rfl ?_
  refine s_iload (pc := 2669) (i := 4) dL_law__2669 rfl ?_
  refine m_ic (pc := 2671) (v := 1) dL_law__2671 rfl ?_
  refine s_iadd (pc := 2672) dL_law__2672 ?_
  refine m_nm (v' := nI ((10 * q) + 1)) (nI_add (10 * q) 1) ?_
  refine s_sld (pc := 2673) dL_law__2673 (vp_in_nI (n := (10 * q) + 1) (by omega) (by omega)) ?_
  refine m_nm (v' := gx g (10 * q + 1)) (rdX (by omega)) ?_
  refine m_v1 (pc := 2674) dL_law__2674 lk_L_259 ok_X11_count (rcO o_1 (by decide) rfl) rfl rfl (hC g (d + 39) I J n w _ hc (fun I1 hc1 f1 => kt_s ?_))
  refine s_aload_n (pc := 2677) (i := 2) dL_law__2677 rfl rfl ?_
  refine s_aload_n (pc := 2678) (i := 0) dL_law__2678 rfl rfl ?_
  refine s_iload (pc := 2679) (i := 4) dL_law__2679 rfl ?_
  refine m_ic (pc := 2681) (v := 1) dL_law__2681 rfl ?_
  refine s_iadd (pc := 2682) dL_law__2682 ?_
  refine m_nm (v' := nI ((10 * q) + 1)) (nI_add (10 * q) 1) ?_
  refine s_sld (pc := 2683) dL_law__2683 (vp_in_nI (n := (10 * q) + 1) (by omega) (by omega)) ?_
  refine m_nm (v' := gx g (10 * q + 1)) (rdX (by omega)) ?_
  refine m_v1 (pc := 2684) dL_law__2684 lk_L_262 ok_X12_count (rcO o_534 (by decide) rfl) rfl rfl (hM g (d + 39) I1 J n w _ (mI_c hm f1) (fun I2 hm2 f2 => kt_s ?_))
  refine s_iceq (pc := 2687) (tgt := 2692) dL_law__2687 rfl (fun h2687 => ?_) (fun h2687 => absurd (rfl) h2687)
  exact hK x1 I2 J n w _ _ _ _ hg1 (cI_m hg1 hc1 f2) hm2 (by omega) (by omega)
end S
