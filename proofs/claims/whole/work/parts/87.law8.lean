set_option maxHeartbeats 1000000 in
set_option maxRecDepth 20000 in
theorem w_sign {σ : q_E} {p : Program} {e : Env} {s : State} {m : MethodId} {below : List Frame} {meth : Method} {c : Code} {Q : State → Prop} {b L : Nat} {xs : Nat → Int32} (l : Launch) (hlf : l.stackTraces = false) (C : q_C σ p s m #[Value.ref b] c cL_law 8 RL wsL_law) (X : w_X σ s b L xs) {V : q_V} {G : q_G} {n ns : Nat} (h : q_Rel V G n ns) {i cells slots : Nat} (hi : i + 4 ≤ L) (hcs : cells + 6 ≤ 601024 ∧ slots + 36 ≤ 7293034) (kk : ∀ (V9 : q_V) (G9 : q_G), (∃ n ns, q_Rel V9 G9 n ns) → q_W σ p l e room_1 s m #[Value.ref b] below meth c Q 8 (cells + 6) (slots + 36) V9 G9 (w_lv σ b i) 1753 []) : q_W σ p l e room_1 s m #[Value.ref b] below meth c Q 8 cells slots V G (w_lv σ b i) 1450 [] := by
  have hh := h
  obtain ⟨h1, h2, h3, h4, h5, h6, h7, h8, h9, h10⟩ := hh
  refine q_aload_n C dL_law_1450 rfl 1 rfl ?_
  refine q_aload_n C dL_law_1451 rfl 0 rfl ?_
  refine q_iload C dL_law_1452 4 rfl ?_
  refine q_iconst C (nI 1) dL_law_1454 (by decide) ?_
  refine q_iaddN C dL_law_1455 ?_
  refine w_sld C X (by omega) dL_law_1456 ?_
  refine q_aload_n C dL_law_1457 rfl 3 rfl ?_
  refine q_callWi C (As := [.ref (σ.2.1 0), .int (xs (i + 1)), .ref (σ.2.1 18)]) (rest := []) (kL_sign l σ V G hlf h3.1 h6.1 h6.2.2.1 (xs (i + 1))) 3 gL_law_L_sign rfl rfl rfl ⟨by decide +kernel, by decide +kernel, by decide +kernel⟩ ⟨Nat.le_of_ble_eq_true rfl, Nat.le_of_ble_eq_true rfl⟩ dL_law_1458 rfl (Nat.le_of_ble_eq_true rfl) ⟨hcs.1, hcs.2⟩ (fun k V1 G1 hL => ?_)
  have hm : q_m V V1 := by
    rcases hL with ⟨r9, V9, G9, hq, -, rfl, -⟩ | ⟨E9, hq, -⟩
    · obtain ⟨h9c, -, rfl, -⟩ := hq
      have h9n := ((q_c2_of h9c).2).2.2
      have h9m : ns < 8 := by have := h6.2.2.1; omega
      exact q_m_up (q_m_up (q_m_cpy (q_m_up (q_m_up (q_m_rf V) (by omega) _ _) (by omega) _ _) (by omega) _) (by omega) _ _) (by omega) _ _
    · obtain ⟨-, rfl, -⟩ := hq
      exact q_m_rf V
  refine q_istore C [(5, .int k), (0, .ref b), (1, .ref (σ.2.1 0)), (2, .ref (σ.2.1 19)), (3, .ref (σ.2.1 18)), (4, .int (nI i))] dL_law_1461 (by decide) rfl ?_
  refine q_aload_n C dL_law_1463 rfl 3 rfl ?_
  refine q_aload_n C dL_law_1464 rfl 1 rfl ?_
  refine q_iload C dL_law_1465 5 rfl ?_
  refine q_iconst C (nI 1) dL_law_1467 (by decide) ?_
  refine q_iaddN C dL_law_1468 ?_
  refine w_sld C X (by omega) dL_law_1469 ?_
  refine q_callVi C (As := [.int (xs (i + 1))]) (rest := []) (k := 19) (by omega) q_enMO rfl rfl (kX3_sign l σ V1 G1 (w_md h3 hm).1 (w_md h3 hm).2 h3.1.2.2.1 h3.1.2.2.2.1 h3.1.2.2.2.2.1 h3.1.2.2.2.2.2 (w_ms h6 hm).1 h6.2.2.1 (xs (i + 1))) 1 gL_law_X3_sign rfl rfl rfl ⟨by decide +kernel, by decide +kernel, by decide +kernel⟩ ⟨Nat.le_of_ble_eq_true rfl, Nat.le_of_ble_eq_true rfl⟩ dL_law_1470 rfl (Nat.le_of_ble_eq_true rfl) ⟨by show cells + 6 + 0 ≤ 601024; omega, by show slots + 36 + 0 ≤ 7293034; omega⟩ (fun r V2 G2 hM => ?_)
  have hst := q_sim_sign h (xs (i + 1)) hL hM
  refine q_istore C [(6, .int r), (5, .int k), (0, .ref b), (1, .ref (σ.2.1 0)), (2, .ref (σ.2.1 19)), (3, .ref (σ.2.1 18)), (4, .int (nI i))] dL_law_1473 (by decide) rfl ?_
  refine q_aload_n C dL_law_1475 rfl 4 rfl ?_
  refine q_callVi C (As := []) (rest := []) (k := 19) (by omega) q_enMO rfl rfl (kX3_thrown l σ V2 G2) 0 gL_law_X3_thrown rfl rfl rfl ⟨by decide +kernel, by decide +kernel, by decide +kernel⟩ ⟨Nat.le_of_ble_eq_true rfl, Nat.le_of_ble_eq_true rfl⟩ dL_law_1476 rfl (Nat.le_of_ble_eq_true rfl) ⟨by show cells + 6 + 0 + 0 ≤ 601024; omega, by show slots + 36 + 0 + 0 ≤ 7293034; omega⟩ (fun t3 V3 G3 hT => ?_)
  obtain ⟨rfl, rfl, rfl⟩ := hT
  refine q_iload C dL_law_1479 1 rfl ?_
  refine q_icmp_eq C 1486 dL_law_1481 (by decide) (fun c1 => ?_) (fun c1 => absurd hst.1 c1)
  refine q_iload C dL_law_1486 1 rfl ?_
  refine q_if_ne C 1503 dL_law_1488 (by decide) (fun c2 => ?_) (fun c2 => ?_)
  · skip
    refine q_goto C 1753 dL_law_1503 (by decide) ?_
    exact q_sub [2, 3, 4, 5, 6] rfl (w_widen (by omega) (by omega) (kk V2 G2 hst.2.2))
  · have hk0 : k = 0 := c2
    have ho := hst.2.1 hk0
    refine q_aload_n C dL_law_1491 rfl 5 rfl ?_
    refine q_iconst C (nI 0) dL_law_1492 (by decide) ?_
    refine q_laldN C (n := 1) ⟨by omega, rfl, rfl⟩ (by omega : 0 < 1) (by omega) dL_law_1493 ?_
    rw [ho]
    refine q_iload C dL_law_1494 0 rfl ?_
    refine q_i2l C dL_law_1496 ?_
    refine q_lcmp C dL_law_1497 ?_
    rw [lg_cmp_self]
    refine q_if_eq C 1503 dL_law_1498 (by decide) (fun c3 => ?_) (fun c3 => absurd rfl c3)
    refine q_goto C 1753 dL_law_1503 (by decide) ?_
    exact q_sub [2, 3, 4, 5, 6] rfl (w_widen (by omega) (by omega) (kk V2 G2 hst.2.2))
set_option maxHeartbeats 1000000 in
set_option maxRecDepth 20000 in
theorem w_stands {σ : q_E} {p : Program} {e : Env} {s : State} {m : MethodId} {below : List Frame} {meth : Method} {c : Code} {Q : State → Prop} {b L : Nat} {xs : Nat → Int32} (l : Launch) (hlf : l.stackTraces = false) (C : q_C σ p s m #[Value.ref b] c cL_law 8 RL wsL_law) (X : w_X σ s b L xs) {V : q_V} {G : q_G} {n ns : Nat} (h : q_Rel V G n ns) {i cells slots : Nat} (hi : i + 4 ≤ L) (hcs : cells + 6 ≤ 601024 ∧ slots + 36 ≤ 7293034) (kk : ∀ (V9 : q_V) (G9 : q_G), (∃ n ns, q_Rel V9 G9 n ns) → q_W σ p l e room_1 s m #[Value.ref b] below meth c Q 8 (cells + 6) (slots + 36) V9 G9 (w_lv σ b i) 1753 []) : q_W σ p l e room_1 s m #[Value.ref b] below meth c Q 8 cells slots V G (w_lv σ b i) 1506 [] := by
  have hh := h
  obtain ⟨h1, h2, h3, h4, h5, h6, h7, h8, h9, h10⟩ := hh
  refine q_aload_n C dL_law_1506 rfl 1 rfl ?_
  refine q_aload_n C dL_law_1507 rfl 0 rfl ?_
  refine q_iload C dL_law_1508 4 rfl ?_
  refine q_iconst C (nI 1) dL_law_1510 (by decide) ?_
  refine q_iaddN C dL_law_1511 ?_
  refine w_sld C X (by omega) dL_law_1512 ?_
  refine q_aload_n C dL_law_1513 rfl 0 rfl ?_
  refine q_iload C dL_law_1514 4 rfl ?_
  refine q_iconst C (nI 2) dL_law_1516 (by decide) ?_
  refine q_iaddN C dL_law_1517 ?_
  refine w_sld C X (by omega) dL_law_1518 ?_
  refine q_aload_n C dL_law_1519 rfl 3 rfl ?_
  refine q_callWi C (As := [.ref (σ.2.1 0), .int (xs (i + 1)), .int (xs (i + 2)), .ref (σ.2.1 18)]) (rest := []) (kL_stands l σ V G hlf h4.1 h4.2.2.1 h4.2.2.2.1 h6.1 h6.2.2.1 h6.2.2.2.1 (xs (i + 1)) (xs (i + 2))) 4 gL_law_L_stands rfl rfl rfl ⟨by decide +kernel, by decide +kernel, by decide +kernel⟩ ⟨Nat.le_of_ble_eq_true rfl, Nat.le_of_ble_eq_true rfl⟩ dL_law_1520 rfl (Nat.le_of_ble_eq_true rfl) ⟨hcs.1, hcs.2⟩ (fun k V1 G1 hL => ?_)
  have hm : q_m V V1 := by
    rcases hL with ⟨r9, V9, G9, hq, -, rfl, -⟩ | ⟨E9, hq, -⟩
    · obtain ⟨-, -, rfl, -⟩ := hq
      exact q_m_rf V
    · obtain ⟨-, rfl, -⟩ := hq
      exact q_m_rf V
  refine q_istore C [(5, .int k), (0, .ref b), (1, .ref (σ.2.1 0)), (2, .ref (σ.2.1 19)), (3, .ref (σ.2.1 18)), (4, .int (nI i))] dL_law_1523 (by decide) rfl ?_
  refine q_aload_n C dL_law_1525 rfl 3 rfl ?_
  refine q_aload_n C dL_law_1526 rfl 1 rfl ?_
  refine q_iload C dL_law_1527 5 rfl ?_
  refine q_iconst C (nI 1) dL_law_1529 (by decide) ?_
  refine q_iaddN C dL_law_1530 ?_
  refine w_sld C X (by omega) dL_law_1531 ?_
  refine q_aload_n C dL_law_1532 rfl 1 rfl ?_
  refine q_iload C dL_law_1533 5 rfl ?_
  refine q_iconst C (nI 2) dL_law_1535 (by decide) ?_
  refine q_iaddN C dL_law_1536 ?_
  refine w_sld C X (by omega) dL_law_1537 ?_
  refine q_callVi C (As := [.int (xs (i + 1)), .int (xs (i + 2))]) (rest := []) (k := 19) (by omega) q_enMO rfl rfl (kX3_stands l σ V1 G1 (w_mp h4 hm).1 h4.2.2.1 (w_mp h4 hm).2 (w_ms h6 hm).1 h6.2.2.1 (w_ms h6 hm).2 (xs (i + 1)) (xs (i + 2))) 2 gL_law_X3_stands rfl rfl rfl ⟨by decide +kernel, by decide +kernel, by decide +kernel⟩ ⟨Nat.le_of_ble_eq_true rfl, Nat.le_of_ble_eq_true rfl⟩ dL_law_1538 rfl (Nat.le_of_ble_eq_true rfl) ⟨by show cells + 6 + 0 ≤ 601024; omega, by show slots + 36 + 0 ≤ 7293034; omega⟩ (fun r V2 G2 hM => ?_)
  have hst := q_sim_stands h (xs (i + 1)) (xs (i + 2)) hL hM
  refine q_istore C [(6, .int r), (5, .int k), (0, .ref b), (1, .ref (σ.2.1 0)), (2, .ref (σ.2.1 19)), (3, .ref (σ.2.1 18)), (4, .int (nI i))] dL_law_1541 (by decide) rfl ?_
  refine q_aload_n C dL_law_1543 rfl 4 rfl ?_
  refine q_callVi C (As := []) (rest := []) (k := 19) (by omega) q_enMO rfl rfl (kX3_thrown l σ V2 G2) 0 gL_law_X3_thrown rfl rfl rfl ⟨by decide +kernel, by decide +kernel, by decide +kernel⟩ ⟨Nat.le_of_ble_eq_true rfl, Nat.le_of_ble_eq_true rfl⟩ dL_law_1544 rfl (Nat.le_of_ble_eq_true rfl) ⟨by show cells + 6 + 0 + 0 ≤ 601024; omega, by show slots + 36 + 0 + 0 ≤ 7293034; omega⟩ (fun t3 V3 G3 hT => ?_)
  obtain ⟨rfl, rfl, rfl⟩ := hT
  refine q_iload C dL_law_1547 1 rfl ?_
  refine q_icmp_eq C 1554 dL_law_1549 (by decide) (fun c1 => ?_) (fun c1 => absurd hst.1 c1)
  refine q_iload C dL_law_1554 1 rfl ?_
  refine q_if_ne C 1571 dL_law_1556 (by decide) (fun c2 => ?_) (fun c2 => ?_)
  · skip
    refine q_goto C 1753 dL_law_1571 (by decide) ?_
    exact q_sub [2, 3, 4, 5, 6] rfl (w_widen (by omega) (by omega) (kk V2 G2 hst.2.2))
  · have hk0 : k = 0 := c2
    have ho := hst.2.1 hk0
    refine q_aload_n C dL_law_1559 rfl 5 rfl ?_
    refine q_iconst C (nI 0) dL_law_1560 (by decide) ?_
    refine q_laldN C (n := 1) ⟨by omega, rfl, rfl⟩ (by omega : 0 < 1) (by omega) dL_law_1561 ?_
    rw [ho]
    refine q_iload C dL_law_1562 0 rfl ?_
    refine q_i2l C dL_law_1564 ?_
    refine q_lcmp C dL_law_1565 ?_
    rw [lg_cmp_self]
    refine q_if_eq C 1571 dL_law_1566 (by decide) (fun c3 => ?_) (fun c3 => absurd rfl c3)
    refine q_goto C 1753 dL_law_1571 (by decide) ?_
    exact q_sub [2, 3, 4, 5, 6] rfl (w_widen (by omega) (by omega) (kk V2 G2 hst.2.2))
set_option maxHeartbeats 1000000 in
set_option maxRecDepth 20000 in
theorem w_story {σ : q_E} {p : Program} {e : Env} {s : State} {m : MethodId} {below : List Frame} {meth : Method} {c : Code} {Q : State → Prop} {b L : Nat} {xs : Nat → Int32} (l : Launch) (hlf : l.stackTraces = false) (C : q_C σ p s m #[Value.ref b] c cL_law 8 RL wsL_law) (X : w_X σ s b L xs) {V : q_V} {G : q_G} {n ns : Nat} (h : q_Rel V G n ns) {i cells slots : Nat} (hi : i + 4 ≤ L) (hcs : cells + 6 ≤ 601024 ∧ slots + 36 ≤ 7293034) (kk : ∀ (V9 : q_V) (G9 : q_G), (∃ n ns, q_Rel V9 G9 n ns) → q_W σ p l e room_1 s m #[Value.ref b] below meth c Q 8 (cells + 6) (slots + 36) V9 G9 (w_lv σ b i) 1753 []) : q_W σ p l e room_1 s m #[Value.ref b] below meth c Q 8 cells slots V G (w_lv σ b i) 1574 [] := by
  have hh := h
  obtain ⟨h1, h2, h3, h4, h5, h6, h7, h8, h9, h10⟩ := hh
  refine q_aload_n C dL_law_1574 rfl 1 rfl ?_
  refine q_aload_n C dL_law_1575 rfl 0 rfl ?_
  refine q_iload C dL_law_1576 4 rfl ?_
  refine q_iconst C (nI 1) dL_law_1578 (by decide) ?_
  refine q_iaddN C dL_law_1579 ?_
  refine w_sld C X (by omega) dL_law_1580 ?_
  refine q_aload_n C dL_law_1581 rfl 3 rfl ?_
  refine q_callWi C (As := [.ref (σ.2.1 0), .int (xs (i + 1)), .ref (σ.2.1 18)]) (rest := []) (kL_story l σ V G hlf h4.1 h4.2.2.1 h4.2.2.2.1 h6.1 h6.2.2.1 h6.2.2.2.1 (xs (i + 1))) 3 gL_law_L_story rfl rfl rfl ⟨by decide +kernel, by decide +kernel, by decide +kernel⟩ ⟨Nat.le_of_ble_eq_true rfl, Nat.le_of_ble_eq_true rfl⟩ dL_law_1582 rfl (Nat.le_of_ble_eq_true rfl) ⟨hcs.1, hcs.2⟩ (fun k V1 G1 hL => ?_)
  have hm : q_m V V1 := by
    rcases hL with ⟨r9, V9, G9, hq, -, rfl, -⟩ | ⟨E9, hq, -⟩
    · obtain ⟨-, -, rfl, -⟩ := hq
      exact q_m_rf V
    · obtain ⟨-, rfl, -⟩ := hq
      exact q_m_rf V
  refine q_istore C [(5, .int k), (0, .ref b), (1, .ref (σ.2.1 0)), (2, .ref (σ.2.1 19)), (3, .ref (σ.2.1 18)), (4, .int (nI i))] dL_law_1585 (by decide) rfl ?_
  refine q_aload_n C dL_law_1587 rfl 3 rfl ?_
  refine q_aload_n C dL_law_1588 rfl 1 rfl ?_
  refine q_iload C dL_law_1589 5 rfl ?_
  refine q_iconst C (nI 1) dL_law_1591 (by decide) ?_
  refine q_iaddN C dL_law_1592 ?_
  refine w_sld C X (by omega) dL_law_1593 ?_
  refine q_callVi C (As := [.int (xs (i + 1))]) (rest := []) (k := 19) (by omega) q_enMO rfl rfl (kX3_story l σ V1 G1 (w_mp h4 hm).1 h4.2.2.1 (w_mp h4 hm).2 (w_ms h6 hm).1 h6.2.2.1 (w_ms h6 hm).2 (xs (i + 1))) 1 gL_law_X3_story rfl rfl rfl ⟨by decide +kernel, by decide +kernel, by decide +kernel⟩ ⟨Nat.le_of_ble_eq_true rfl, Nat.le_of_ble_eq_true rfl⟩ dL_law_1594 rfl (Nat.le_of_ble_eq_true rfl) ⟨by show cells + 6 + 0 ≤ 601024; omega, by show slots + 36 + 0 ≤ 7293034; omega⟩ (fun r V2 G2 hM => ?_)
  have hst := q_sim_story h (xs (i + 1)) hL hM
  refine q_istore C [(6, .int r), (5, .int k), (0, .ref b), (1, .ref (σ.2.1 0)), (2, .ref (σ.2.1 19)), (3, .ref (σ.2.1 18)), (4, .int (nI i))] dL_law_1597 (by decide) rfl ?_
  refine q_aload_n C dL_law_1599 rfl 4 rfl ?_
  refine q_callVi C (As := []) (rest := []) (k := 19) (by omega) q_enMO rfl rfl (kX3_thrown l σ V2 G2) 0 gL_law_X3_thrown rfl rfl rfl ⟨by decide +kernel, by decide +kernel, by decide +kernel⟩ ⟨Nat.le_of_ble_eq_true rfl, Nat.le_of_ble_eq_true rfl⟩ dL_law_1600 rfl (Nat.le_of_ble_eq_true rfl) ⟨by show cells + 6 + 0 + 0 ≤ 601024; omega, by show slots + 36 + 0 + 0 ≤ 7293034; omega⟩ (fun t3 V3 G3 hT => ?_)
  obtain ⟨rfl, rfl, rfl⟩ := hT
  refine q_iload C dL_law_1603 1 rfl ?_
  refine q_icmp_eq C 1610 dL_law_1605 (by decide) (fun c1 => ?_) (fun c1 => absurd hst.1 c1)
  refine q_iload C dL_law_1610 1 rfl ?_
  refine q_if_ne C 1627 dL_law_1612 (by decide) (fun c2 => ?_) (fun c2 => ?_)
  · skip
    refine q_goto C 1753 dL_law_1627 (by decide) ?_
    exact q_sub [2, 3, 4, 5, 6] rfl (w_widen (by omega) (by omega) (kk V2 G2 hst.2.2))
  · have hk0 : k = 0 := c2
    have ho := hst.2.1 hk0
    refine q_aload_n C dL_law_1615 rfl 5 rfl ?_
    refine q_iconst C (nI 0) dL_law_1616 (by decide) ?_
    refine q_laldN C (n := 1) ⟨by omega, rfl, rfl⟩ (by omega : 0 < 1) (by omega) dL_law_1617 ?_
    rw [ho]
    refine q_iload C dL_law_1618 0 rfl ?_
    refine q_i2l C dL_law_1620 ?_
    refine q_lcmp C dL_law_1621 ?_
    rw [lg_cmp_self]
    refine q_if_eq C 1627 dL_law_1622 (by decide) (fun c3 => ?_) (fun c3 => absurd rfl c3)
    refine q_goto C 1753 dL_law_1627 (by decide) ?_
    exact q_sub [2, 3, 4, 5, 6] rfl (w_widen (by omega) (by omega) (kk V2 G2 hst.2.2))
set_option maxHeartbeats 1000000 in
set_option maxRecDepth 20000 in
theorem w_hear {σ : q_E} {p : Program} {e : Env} {s : State} {m : MethodId} {below : List Frame} {meth : Method} {c : Code} {Q : State → Prop} {b L : Nat} {xs : Nat → Int32} (l : Launch) (hlf : l.stackTraces = false) (C : q_C σ p s m #[Value.ref b] c cL_law 8 RL wsL_law) (X : w_X σ s b L xs) {V : q_V} {G : q_G} {n ns : Nat} (h : q_Rel V G n ns) {i cells slots : Nat} (hi : i + 4 ≤ L) (hcs : cells + 6 ≤ 601024 ∧ slots + 36 ≤ 7293034) (kk : ∀ (V9 : q_V) (G9 : q_G), (∃ n ns, q_Rel V9 G9 n ns) → q_W σ p l e room_1 s m #[Value.ref b] below meth c Q 8 (cells + 6) (slots + 36) V9 G9 (w_lv σ b i) 1753 []) : q_W σ p l e room_1 s m #[Value.ref b] below meth c Q 8 cells slots V G (w_lv σ b i) 1630 [] := by
  have hh := h
  obtain ⟨h1, h2, h3, h4, h5, h6, h7, h8, h9, h10⟩ := hh
  refine q_aload_n C dL_law_1630 rfl 1 rfl ?_
  refine q_aload_n C dL_law_1631 rfl 0 rfl ?_
  refine q_iload C dL_law_1632 4 rfl ?_
  refine q_iconst C (nI 1) dL_law_1634 (by decide) ?_
  refine q_iaddN C dL_law_1635 ?_
  refine w_sld C X (by omega) dL_law_1636 ?_
  refine q_aload_n C dL_law_1637 rfl 0 rfl ?_
  refine q_iload C dL_law_1638 4 rfl ?_
  refine q_iconst C (nI 2) dL_law_1640 (by decide) ?_
  refine q_iaddN C dL_law_1641 ?_
  refine w_sld C X (by omega) dL_law_1642 ?_
  refine q_aload_n C dL_law_1643 rfl 3 rfl ?_
  refine q_callWi C (As := [.ref (σ.2.1 0), .int (xs (i + 1)), .int (xs (i + 2)), .ref (σ.2.1 18)]) (rest := []) (kL_hear l σ V G hlf h4.2.2.1 h4.2.2.2.1 (q_Rel_mbelts h7).2.1 h6.1 h6.2.2.1 h6.2.2.2.1 (xs (i + 1)) (xs (i + 2))) 4 gL_law_L_hear rfl rfl rfl ⟨by decide +kernel, by decide +kernel, by decide +kernel⟩ ⟨Nat.le_of_ble_eq_true rfl, Nat.le_of_ble_eq_true rfl⟩ dL_law_1644 rfl (Nat.le_of_ble_eq_true rfl) ⟨hcs.1, hcs.2⟩ (fun k V1 G1 hL => ?_)
  have hm : q_m V V1 := by
    rcases hL with ⟨r9, V9, G9, hq, -, rfl, -⟩ | ⟨E9, hq, -⟩
    · obtain ⟨-, -, rfl, -⟩ := hq
      exact q_m_rf V
    · obtain ⟨-, rfl, -⟩ := hq
      exact q_m_rf V
  refine q_istore C [(5, .int k), (0, .ref b), (1, .ref (σ.2.1 0)), (2, .ref (σ.2.1 19)), (3, .ref (σ.2.1 18)), (4, .int (nI i))] dL_law_1647 (by decide) rfl ?_
  refine q_aload_n C dL_law_1649 rfl 3 rfl ?_
  refine q_aload_n C dL_law_1650 rfl 1 rfl ?_
  refine q_iload C dL_law_1651 5 rfl ?_
  refine q_iconst C (nI 1) dL_law_1653 (by decide) ?_
  refine q_iaddN C dL_law_1654 ?_
  refine w_sld C X (by omega) dL_law_1655 ?_
  refine q_aload_n C dL_law_1656 rfl 1 rfl ?_
  refine q_iload C dL_law_1657 5 rfl ?_
  refine q_iconst C (nI 2) dL_law_1659 (by decide) ?_
  refine q_iaddN C dL_law_1660 ?_
  refine w_sld C X (by omega) dL_law_1661 ?_
  refine q_callVl C (As := [.int (xs (i + 1)), .int (xs (i + 2))]) (rest := []) (k := 19) (by omega) q_enMO rfl rfl (kX3_hear l σ V1 G1 h4.2.2.1 (w_mp h4 hm).2 (w_mb h7 hm).1 (w_ms h6 hm).1 h6.2.2.1 (w_ms h6 hm).2 (xs (i + 1)) (xs (i + 2))) 2 gL_law_X3_hear rfl rfl rfl ⟨by decide +kernel, by decide +kernel, by decide +kernel⟩ ⟨Nat.le_of_ble_eq_true rfl, Nat.le_of_ble_eq_true rfl⟩ dL_law_1662 rfl (Nat.le_of_ble_eq_true rfl) ⟨by show cells + 6 + 0 ≤ 601024; omega, by show slots + 36 + 0 ≤ 7293034; omega⟩ (fun r V2 G2 hM => ?_)
  have hst := q_sim_hear h (xs (i + 1)) (xs (i + 2)) hL hM
  refine q_lstore C [(6, .long r), (5, .int k), (0, .ref b), (1, .ref (σ.2.1 0)), (2, .ref (σ.2.1 19)), (3, .ref (σ.2.1 18)), (4, .int (nI i))] dL_law_1665 (by decide) rfl ?_
  refine q_aload_n C dL_law_1667 rfl 4 rfl ?_
  refine q_callVi C (As := []) (rest := []) (k := 19) (by omega) q_enMO rfl rfl (kX3_thrown l σ V2 G2) 0 gL_law_X3_thrown rfl rfl rfl ⟨by decide +kernel, by decide +kernel, by decide +kernel⟩ ⟨Nat.le_of_ble_eq_true rfl, Nat.le_of_ble_eq_true rfl⟩ dL_law_1668 rfl (Nat.le_of_ble_eq_true rfl) ⟨by show cells + 6 + 0 + 0 ≤ 601024; omega, by show slots + 36 + 0 + 0 ≤ 7293034; omega⟩ (fun t3 V3 G3 hT => ?_)
  obtain ⟨rfl, rfl, rfl⟩ := hT
  refine q_iload C dL_law_1671 1 rfl ?_
  refine q_icmp_eq C 1678 dL_law_1673 (by decide) (fun c1 => ?_) (fun c1 => absurd hst.1 c1)
  refine q_iload C dL_law_1678 1 rfl ?_
  refine q_if_ne C 1694 dL_law_1680 (by decide) (fun c2 => ?_) (fun c2 => ?_)
  · skip
    refine q_goto C 1753 dL_law_1694 (by decide) ?_
    exact q_sub [2, 3, 4, 5, 6] rfl (w_widen (by omega) (by omega) (kk V2 G2 hst.2.2))
  · have hk0 : k = 0 := c2
    have ho := hst.2.1 hk0
    refine q_aload_n C dL_law_1683 rfl 5 rfl ?_
    refine q_iconst C (nI 0) dL_law_1684 (by decide) ?_
    refine q_laldN C (n := 1) ⟨by omega, rfl, rfl⟩ (by omega : 0 < 1) (by omega) dL_law_1685 ?_
    rw [ho]
    refine q_lload C dL_law_1686 0 rfl ?_
    refine q_lcmp C dL_law_1688 ?_
    rw [lg_cmp_self]
    refine q_if_eq C 1694 dL_law_1689 (by decide) (fun c3 => ?_) (fun c3 => absurd rfl c3)
    refine q_goto C 1753 dL_law_1694 (by decide) ?_
    exact q_sub [2, 3, 4, 5, 6] rfl (w_widen (by omega) (by omega) (kk V2 G2 hst.2.2))
set_option maxHeartbeats 1000000 in
set_option maxRecDepth 20000 in
theorem w_ranked {σ : q_E} {p : Program} {e : Env} {s : State} {m : MethodId} {below : List Frame} {meth : Method} {c : Code} {Q : State → Prop} {b L : Nat} {xs : Nat → Int32} (l : Launch) (hlf : l.stackTraces = false) (C : q_C σ p s m #[Value.ref b] c cL_law 8 RL wsL_law) (X : w_X σ s b L xs) {V : q_V} {G : q_G} {n ns : Nat} (h : q_Rel V G n ns) {i cells slots : Nat} (hi : i + 4 ≤ L) (hcs : cells + 6 ≤ 601024 ∧ slots + 36 ≤ 7293034) (kk : ∀ (V9 : q_V) (G9 : q_G), (∃ n ns, q_Rel V9 G9 n ns) → q_W σ p l e room_1 s m #[Value.ref b] below meth c Q 8 (cells + 6) (slots + 36) V9 G9 (w_lv σ b i) 1753 []) : q_W σ p l e room_1 s m #[Value.ref b] below meth c Q 8 cells slots V G (w_lv σ b i) 1697 [] := by
  have hh := h
  obtain ⟨h1, h2, h3, h4, h5, h6, h7, h8, h9, h10⟩ := hh
  refine q_aload_n C dL_law_1697 rfl 1 rfl ?_
  refine q_aload_n C dL_law_1698 rfl 0 rfl ?_
  refine q_iload C dL_law_1699 4 rfl ?_
  refine q_iconst C (nI 1) dL_law_1701 (by decide) ?_
  refine q_iaddN C dL_law_1702 ?_
  refine w_sld C X (by omega) dL_law_1703 ?_
  refine q_aload_n C dL_law_1704 rfl 3 rfl ?_
  refine q_callWi C (As := [.ref (σ.2.1 0), .int (xs (i + 1)), .ref (σ.2.1 18)]) (rest := []) (kL_ranked l σ V G hlf (xs (i + 1))) 3 gL_law_L_ranked rfl rfl rfl ⟨by decide +kernel, by decide +kernel, by decide +kernel⟩ ⟨Nat.le_of_ble_eq_true rfl, Nat.le_of_ble_eq_true rfl⟩ dL_law_1705 rfl (Nat.le_of_ble_eq_true rfl) ⟨hcs.1, hcs.2⟩ (fun k V1 G1 hL => ?_)
  refine q_istore C [(5, .int k), (0, .ref b), (1, .ref (σ.2.1 0)), (2, .ref (σ.2.1 19)), (3, .ref (σ.2.1 18)), (4, .int (nI i))] dL_law_1708 (by decide) rfl ?_
  refine q_aload_n C dL_law_1710 rfl 3 rfl ?_
  refine q_aload_n C dL_law_1711 rfl 1 rfl ?_
  refine q_iload C dL_law_1712 5 rfl ?_
  refine q_iconst C (nI 1) dL_law_1714 (by decide) ?_
  refine q_iaddN C dL_law_1715 ?_
  refine w_sld C X (by omega) dL_law_1716 ?_
  refine q_callVi C (As := [.int (xs (i + 1))]) (rest := []) (k := 19) (by omega) q_enMO rfl rfl (kX3_ranked l σ V1 G1 (xs (i + 1))) 1 gL_law_X3_ranked rfl rfl rfl ⟨by decide +kernel, by decide +kernel, by decide +kernel⟩ ⟨Nat.le_of_ble_eq_true rfl, Nat.le_of_ble_eq_true rfl⟩ dL_law_1717 rfl (Nat.le_of_ble_eq_true rfl) ⟨by show cells + 6 + 0 ≤ 601024; omega, by show slots + 36 + 0 ≤ 7293034; omega⟩ (fun r V2 G2 hM => ?_)
  have hst := q_sim_ranked h (xs (i + 1)) hL hM
  refine q_istore C [(6, .int r), (5, .int k), (0, .ref b), (1, .ref (σ.2.1 0)), (2, .ref (σ.2.1 19)), (3, .ref (σ.2.1 18)), (4, .int (nI i))] dL_law_1720 (by decide) rfl ?_
  refine q_aload_n C dL_law_1722 rfl 4 rfl ?_
  refine q_callVi C (As := []) (rest := []) (k := 19) (by omega) q_enMO rfl rfl (kX3_thrown l σ V2 G2) 0 gL_law_X3_thrown rfl rfl rfl ⟨by decide +kernel, by decide +kernel, by decide +kernel⟩ ⟨Nat.le_of_ble_eq_true rfl, Nat.le_of_ble_eq_true rfl⟩ dL_law_1723 rfl (Nat.le_of_ble_eq_true rfl) ⟨by show cells + 6 + 0 + 0 ≤ 601024; omega, by show slots + 36 + 0 + 0 ≤ 7293034; omega⟩ (fun t3 V3 G3 hT => ?_)
  obtain ⟨rfl, rfl, rfl⟩ := hT
  refine q_iload C dL_law_1726 1 rfl ?_
  refine q_icmp_eq C 1733 dL_law_1728 (by decide) (fun c1 => ?_) (fun c1 => absurd hst.1 c1)
  refine q_iload C dL_law_1733 1 rfl ?_
  refine q_if_ne C 1750 dL_law_1735 (by decide) (fun c2 => ?_) (fun c2 => ?_)
  · skip
    refine q_goto C 1753 dL_law_1750 (by decide) ?_
    exact q_sub [2, 3, 4, 5, 6] rfl (w_widen (by omega) (by omega) (kk V2 G2 hst.2.2))
  · have hk0 : k = 0 := c2
    have ho := hst.2.1 hk0
    refine q_aload_n C dL_law_1738 rfl 5 rfl ?_
    refine q_iconst C (nI 0) dL_law_1739 (by decide) ?_
    refine q_laldN C (n := 1) ⟨by omega, rfl, rfl⟩ (by omega : 0 < 1) (by omega) dL_law_1740 ?_
    rw [ho]
    refine q_iload C dL_law_1741 0 rfl ?_
    refine q_i2l C dL_law_1743 ?_
    refine q_lcmp C dL_law_1744 ?_
    rw [lg_cmp_self]
    refine q_if_eq C 1750 dL_law_1745 (by decide) (fun c3 => ?_) (fun c3 => absurd rfl c3)
    refine q_goto C 1753 dL_law_1750 (by decide) ?_
    exact q_sub [2, 3, 4, 5, 6] rfl (w_widen (by omega) (by omega) (kk V2 G2 hst.2.2))
