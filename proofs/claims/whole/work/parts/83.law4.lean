set_option maxHeartbeats 1000000 in
set_option maxRecDepth 20000 in
theorem w_brought {σ : q_E} {p : Program} {e : Env} {s : State} {m : MethodId} {below : List Frame} {meth : Method} {c : Code} {Q : State → Prop} {b L : Nat} {xs : Nat → Int32} (l : Launch) (hlf : l.stackTraces = false) (C : q_C σ p s m #[Value.ref b] c cL_law 8 RL wsL_law) (X : w_X σ s b L xs) {V : q_V} {G : q_G} {n ns : Nat} (h : q_Rel V G n ns) {i cells slots : Nat} (hi : i + 4 ≤ L) (hcs : cells + 6 ≤ 601024 ∧ slots + 36 ≤ 7293034) (kk : ∀ (V9 : q_V) (G9 : q_G), (∃ n ns, q_Rel V9 G9 n ns) → q_W σ p l e room_1 s m #[Value.ref b] below meth c Q 8 (cells + 6) (slots + 36) V9 G9 (w_lv σ b i) 1753 []) : q_W σ p l e room_1 s m #[Value.ref b] below meth c Q 8 cells slots V G (w_lv σ b i) 448 [] := by
  have hh := h
  obtain ⟨h1, h2, h3, h4, h5, h6, h7, h8, h9, h10⟩ := hh
  refine q_aload_n C dL_law_448 rfl 1 rfl ?_
  refine q_aload_n C dL_law_449 rfl 0 rfl ?_
  refine q_iload C dL_law_450 4 rfl ?_
  refine q_iconst C (nI 1) dL_law_452 (by decide) ?_
  refine q_iaddN C dL_law_453 ?_
  refine w_sld C X (by omega) dL_law_454 ?_
  refine q_aload_n C dL_law_455 rfl 3 rfl ?_
  refine q_callWi C (As := [.ref (σ.2.1 0), .int (xs (i + 1)), .ref (σ.2.1 18)]) (rest := []) (kL_brought l σ V G hlf (xs (i + 1))) 3 gL_law_L_brought rfl rfl rfl ⟨by decide +kernel, by decide +kernel, by decide +kernel⟩ ⟨Nat.le_of_ble_eq_true rfl, Nat.le_of_ble_eq_true rfl⟩ dL_law_456 rfl (Nat.le_of_ble_eq_true rfl) ⟨hcs.1, hcs.2⟩ (fun k V1 G1 hL => ?_)
  refine q_istore C [(5, .int k), (0, .ref b), (1, .ref (σ.2.1 0)), (2, .ref (σ.2.1 19)), (3, .ref (σ.2.1 18)), (4, .int (nI i))] dL_law_459 (by decide) rfl ?_
  refine q_aload_n C dL_law_461 rfl 3 rfl ?_
  refine q_aload_n C dL_law_462 rfl 1 rfl ?_
  refine q_iload C dL_law_463 5 rfl ?_
  refine q_iconst C (nI 1) dL_law_465 (by decide) ?_
  refine q_iaddN C dL_law_466 ?_
  refine w_sld C X (by omega) dL_law_467 ?_
  refine q_callVi C (As := [.int (xs (i + 1))]) (rest := []) (k := 19) (by omega) q_enMO rfl rfl (kX3_brought l σ V1 G1 (xs (i + 1))) 1 gL_law_X3_brought rfl rfl rfl ⟨by decide +kernel, by decide +kernel, by decide +kernel⟩ ⟨Nat.le_of_ble_eq_true rfl, Nat.le_of_ble_eq_true rfl⟩ dL_law_468 rfl (Nat.le_of_ble_eq_true rfl) ⟨by show cells + 6 + 0 ≤ 601024; omega, by show slots + 36 + 0 ≤ 7293034; omega⟩ (fun r V2 G2 hM => ?_)
  have hst := q_sim_brought h (xs (i + 1)) hL hM
  refine q_istore C [(6, .int r), (5, .int k), (0, .ref b), (1, .ref (σ.2.1 0)), (2, .ref (σ.2.1 19)), (3, .ref (σ.2.1 18)), (4, .int (nI i))] dL_law_471 (by decide) rfl ?_
  refine q_aload_n C dL_law_473 rfl 4 rfl ?_
  refine q_callVi C (As := []) (rest := []) (k := 19) (by omega) q_enMO rfl rfl (kX3_thrown l σ V2 G2) 0 gL_law_X3_thrown rfl rfl rfl ⟨by decide +kernel, by decide +kernel, by decide +kernel⟩ ⟨Nat.le_of_ble_eq_true rfl, Nat.le_of_ble_eq_true rfl⟩ dL_law_474 rfl (Nat.le_of_ble_eq_true rfl) ⟨by show cells + 6 + 0 + 0 ≤ 601024; omega, by show slots + 36 + 0 + 0 ≤ 7293034; omega⟩ (fun t3 V3 G3 hT => ?_)
  obtain ⟨rfl, rfl, rfl⟩ := hT
  refine q_iload C dL_law_477 1 rfl ?_
  refine q_icmp_eq C 484 dL_law_479 (by decide) (fun c1 => ?_) (fun c1 => absurd hst.1 c1)
  refine q_iload C dL_law_484 1 rfl ?_
  refine q_if_ne C 501 dL_law_486 (by decide) (fun c2 => ?_) (fun c2 => ?_)
  · skip
    refine q_goto C 1753 dL_law_501 (by decide) ?_
    exact q_sub [2, 3, 4, 5, 6] rfl (w_widen (by omega) (by omega) (kk V2 G2 hst.2.2))
  · have hk0 : k = 0 := c2
    have ho := hst.2.1 hk0
    refine q_aload_n C dL_law_489 rfl 5 rfl ?_
    refine q_iconst C (nI 0) dL_law_490 (by decide) ?_
    refine q_laldN C (n := 1) ⟨by omega, rfl, rfl⟩ (by omega : 0 < 1) (by omega) dL_law_491 ?_
    rw [ho]
    refine q_iload C dL_law_492 0 rfl ?_
    refine q_i2l C dL_law_494 ?_
    refine q_lcmp C dL_law_495 ?_
    rw [lg_cmp_self]
    refine q_if_eq C 501 dL_law_496 (by decide) (fun c3 => ?_) (fun c3 => absurd rfl c3)
    refine q_goto C 1753 dL_law_501 (by decide) ?_
    exact q_sub [2, 3, 4, 5, 6] rfl (w_widen (by omega) (by omega) (kk V2 G2 hst.2.2))
set_option maxHeartbeats 1000000 in
set_option maxRecDepth 20000 in
theorem w_draft {σ : q_E} {p : Program} {e : Env} {s : State} {m : MethodId} {below : List Frame} {meth : Method} {c : Code} {Q : State → Prop} {b L : Nat} {xs : Nat → Int32} (l : Launch) (hlf : l.stackTraces = false) (C : q_C σ p s m #[Value.ref b] c cL_law 8 RL wsL_law) (X : w_X σ s b L xs) {V : q_V} {G : q_G} {n ns : Nat} (h : q_Rel V G n ns) {i cells slots : Nat} (hi : i + 4 ≤ L) (hcs : cells + 6 ≤ 601024 ∧ slots + 36 ≤ 7293034) (kk : ∀ (V9 : q_V) (G9 : q_G), (∃ n ns, q_Rel V9 G9 n ns) → q_W σ p l e room_1 s m #[Value.ref b] below meth c Q 8 (cells + 6) (slots + 36) V9 G9 (w_lv σ b i) 1753 []) : q_W σ p l e room_1 s m #[Value.ref b] below meth c Q 8 cells slots V G (w_lv σ b i) 504 [] := by
  have hh := h
  obtain ⟨h1, h2, h3, h4, h5, h6, h7, h8, h9, h10⟩ := hh
  refine q_aload_n C dL_law_504 rfl 1 rfl ?_
  refine q_aload_n C dL_law_505 rfl 0 rfl ?_
  refine q_iload C dL_law_506 4 rfl ?_
  refine q_iconst C (nI 1) dL_law_508 (by decide) ?_
  refine q_iaddN C dL_law_509 ?_
  refine w_sld C X (by omega) dL_law_510 ?_
  refine q_aload_n C dL_law_511 rfl 0 rfl ?_
  refine q_iload C dL_law_512 4 rfl ?_
  refine q_iconst C (nI 2) dL_law_514 (by decide) ?_
  refine q_iaddN C dL_law_515 ?_
  refine w_sld C X (by omega) dL_law_516 ?_
  refine q_aload_n C dL_law_517 rfl 3 rfl ?_
  refine q_callWi C (As := [.ref (σ.2.1 0), .int (xs (i + 1)), .int (xs (i + 2)), .ref (σ.2.1 18)]) (rest := []) (kL_draft l σ V G hlf (xs (i + 1)) (xs (i + 2))) 4 gL_law_L_draft rfl rfl rfl ⟨by decide +kernel, by decide +kernel, by decide +kernel⟩ ⟨Nat.le_of_ble_eq_true rfl, Nat.le_of_ble_eq_true rfl⟩ dL_law_518 rfl (Nat.le_of_ble_eq_true rfl) ⟨hcs.1, hcs.2⟩ (fun k V1 G1 hL => ?_)
  refine q_istore C [(5, .int k), (0, .ref b), (1, .ref (σ.2.1 0)), (2, .ref (σ.2.1 19)), (3, .ref (σ.2.1 18)), (4, .int (nI i))] dL_law_521 (by decide) rfl ?_
  refine q_aload_n C dL_law_523 rfl 3 rfl ?_
  refine q_aload_n C dL_law_524 rfl 1 rfl ?_
  refine q_iload C dL_law_525 5 rfl ?_
  refine q_iconst C (nI 1) dL_law_527 (by decide) ?_
  refine q_iaddN C dL_law_528 ?_
  refine w_sld C X (by omega) dL_law_529 ?_
  refine q_aload_n C dL_law_530 rfl 1 rfl ?_
  refine q_iload C dL_law_531 5 rfl ?_
  refine q_iconst C (nI 2) dL_law_533 (by decide) ?_
  refine q_iaddN C dL_law_534 ?_
  refine w_sld C X (by omega) dL_law_535 ?_
  refine q_callVi C (As := [.int (xs (i + 1)), .int (xs (i + 2))]) (rest := []) (k := 19) (by omega) q_enMO rfl rfl (kX3_draft l σ V1 G1 (xs (i + 1)) (xs (i + 2))) 2 gL_law_X3_draft rfl rfl rfl ⟨by decide +kernel, by decide +kernel, by decide +kernel⟩ ⟨Nat.le_of_ble_eq_true rfl, Nat.le_of_ble_eq_true rfl⟩ dL_law_536 rfl (Nat.le_of_ble_eq_true rfl) ⟨by show cells + 6 + 0 ≤ 601024; omega, by show slots + 36 + 0 ≤ 7293034; omega⟩ (fun r V2 G2 hM => ?_)
  have hst := q_sim_draft h (xs (i + 1)) (xs (i + 2)) hL hM
  refine q_istore C [(6, .int r), (5, .int k), (0, .ref b), (1, .ref (σ.2.1 0)), (2, .ref (σ.2.1 19)), (3, .ref (σ.2.1 18)), (4, .int (nI i))] dL_law_539 (by decide) rfl ?_
  refine q_aload_n C dL_law_541 rfl 4 rfl ?_
  refine q_callVi C (As := []) (rest := []) (k := 19) (by omega) q_enMO rfl rfl (kX3_thrown l σ V2 G2) 0 gL_law_X3_thrown rfl rfl rfl ⟨by decide +kernel, by decide +kernel, by decide +kernel⟩ ⟨Nat.le_of_ble_eq_true rfl, Nat.le_of_ble_eq_true rfl⟩ dL_law_542 rfl (Nat.le_of_ble_eq_true rfl) ⟨by show cells + 6 + 0 + 0 ≤ 601024; omega, by show slots + 36 + 0 + 0 ≤ 7293034; omega⟩ (fun t3 V3 G3 hT => ?_)
  obtain ⟨rfl, rfl, rfl⟩ := hT
  refine q_iload C dL_law_545 1 rfl ?_
  refine q_icmp_eq C 552 dL_law_547 (by decide) (fun c1 => ?_) (fun c1 => absurd hst.1 c1)
  refine q_iload C dL_law_552 1 rfl ?_
  refine q_if_ne C 569 dL_law_554 (by decide) (fun c2 => ?_) (fun c2 => ?_)
  · skip
    refine q_goto C 1753 dL_law_569 (by decide) ?_
    exact q_sub [2, 3, 4, 5, 6] rfl (w_widen (by omega) (by omega) (kk V2 G2 hst.2.2))
  · have hk0 : k = 0 := c2
    have ho := hst.2.1 hk0
    refine q_aload_n C dL_law_557 rfl 5 rfl ?_
    refine q_iconst C (nI 0) dL_law_558 (by decide) ?_
    refine q_laldN C (n := 1) ⟨by omega, rfl, rfl⟩ (by omega : 0 < 1) (by omega) dL_law_559 ?_
    rw [ho]
    refine q_iload C dL_law_560 0 rfl ?_
    refine q_i2l C dL_law_562 ?_
    refine q_lcmp C dL_law_563 ?_
    rw [lg_cmp_self]
    refine q_if_eq C 569 dL_law_564 (by decide) (fun c3 => ?_) (fun c3 => absurd rfl c3)
    refine q_goto C 1753 dL_law_569 (by decide) ?_
    exact q_sub [2, 3, 4, 5, 6] rfl (w_widen (by omega) (by omega) (kk V2 G2 hst.2.2))
set_option maxHeartbeats 1000000 in
set_option maxRecDepth 20000 in
theorem w_bead {σ : q_E} {p : Program} {e : Env} {s : State} {m : MethodId} {below : List Frame} {meth : Method} {c : Code} {Q : State → Prop} {b L : Nat} {xs : Nat → Int32} (l : Launch) (hlf : l.stackTraces = false) (C : q_C σ p s m #[Value.ref b] c cL_law 8 RL wsL_law) (X : w_X σ s b L xs) {V : q_V} {G : q_G} {n ns : Nat} (h : q_Rel V G n ns) {i cells slots : Nat} (hi : i + 4 ≤ L) (hcs : cells + 6 ≤ 601024 ∧ slots + 36 ≤ 7293034) (kk : ∀ (V9 : q_V) (G9 : q_G), (∃ n ns, q_Rel V9 G9 n ns) → q_W σ p l e room_1 s m #[Value.ref b] below meth c Q 8 (cells + 6) (slots + 36) V9 G9 (w_lv σ b i) 1753 []) : q_W σ p l e room_1 s m #[Value.ref b] below meth c Q 8 cells slots V G (w_lv σ b i) 572 [] := by
  have hh := h
  obtain ⟨h1, h2, h3, h4, h5, h6, h7, h8, h9, h10⟩ := hh
  refine q_aload_n C dL_law_572 rfl 1 rfl ?_
  refine q_aload_n C dL_law_573 rfl 0 rfl ?_
  refine q_iload C dL_law_574 4 rfl ?_
  refine q_iconst C (nI 1) dL_law_576 (by decide) ?_
  refine q_iaddN C dL_law_577 ?_
  refine w_sld C X (by omega) dL_law_578 ?_
  refine q_aload_n C dL_law_579 rfl 0 rfl ?_
  refine q_iload C dL_law_580 4 rfl ?_
  refine q_iconst C (nI 2) dL_law_582 (by decide) ?_
  refine q_iaddN C dL_law_583 ?_
  refine w_sld C X (by omega) dL_law_584 ?_
  refine q_aload_n C dL_law_585 rfl 0 rfl ?_
  refine q_iload C dL_law_586 4 rfl ?_
  refine q_iconst C (nI 3) dL_law_588 (by decide) ?_
  refine q_iaddN C dL_law_589 ?_
  refine w_sld C X (by omega) dL_law_590 ?_
  refine q_aload_n C dL_law_591 rfl 3 rfl ?_
  refine q_callWi C (As := [.ref (σ.2.1 0), .int (xs (i + 1)), .int (xs (i + 2)), .int (xs (i + 3)), .ref (σ.2.1 18)]) (rest := []) (kL_bead l σ V G hlf h3.1 (xs (i + 1)) (xs (i + 2)) (xs (i + 3))) 5 gL_law_L_bead rfl rfl rfl ⟨by decide +kernel, by decide +kernel, by decide +kernel⟩ ⟨Nat.le_of_ble_eq_true rfl, Nat.le_of_ble_eq_true rfl⟩ dL_law_592 rfl (Nat.le_of_ble_eq_true rfl) ⟨hcs.1, hcs.2⟩ (fun k V1 G1 hL => ?_)
  have hm : q_m V V1 := by
    rcases hL with ⟨r9, V9, G9, hq, -, rfl, -⟩ | ⟨E9, hq, -⟩
    · obtain ⟨-, -, rfl, -⟩ := hq
      exact q_m_up (q_m_rf V) (by omega) _ _
    · obtain ⟨-, rfl, -⟩ := hq
      exact q_m_rf V
  refine q_istore C [(5, .int k), (0, .ref b), (1, .ref (σ.2.1 0)), (2, .ref (σ.2.1 19)), (3, .ref (σ.2.1 18)), (4, .int (nI i))] dL_law_595 (by decide) rfl ?_
  refine q_aload_n C dL_law_597 rfl 3 rfl ?_
  refine q_aload_n C dL_law_598 rfl 1 rfl ?_
  refine q_iload C dL_law_599 5 rfl ?_
  refine q_iconst C (nI 1) dL_law_601 (by decide) ?_
  refine q_iaddN C dL_law_602 ?_
  refine w_sld C X (by omega) dL_law_603 ?_
  refine q_aload_n C dL_law_604 rfl 1 rfl ?_
  refine q_iload C dL_law_605 5 rfl ?_
  refine q_iconst C (nI 2) dL_law_607 (by decide) ?_
  refine q_iaddN C dL_law_608 ?_
  refine w_sld C X (by omega) dL_law_609 ?_
  refine q_aload_n C dL_law_610 rfl 1 rfl ?_
  refine q_iload C dL_law_611 5 rfl ?_
  refine q_iconst C (nI 3) dL_law_613 (by decide) ?_
  refine q_iaddN C dL_law_614 ?_
  refine w_sld C X (by omega) dL_law_615 ?_
  refine q_callVi C (As := [.int (xs (i + 1)), .int (xs (i + 2)), .int (xs (i + 3))]) (rest := []) (k := 19) (by omega) q_enMO rfl rfl (kX3_bead l σ V1 G1 (w_md h3 hm).1 (w_md h3 hm).2 h3.1.2.2.1 h3.1.2.2.2.1 h3.1.2.2.2.2.1 h3.1.2.2.2.2.2 (xs (i + 1)) (xs (i + 2)) (xs (i + 3))) 3 gL_law_X3_bead rfl rfl rfl ⟨by decide +kernel, by decide +kernel, by decide +kernel⟩ ⟨Nat.le_of_ble_eq_true rfl, Nat.le_of_ble_eq_true rfl⟩ dL_law_616 rfl (Nat.le_of_ble_eq_true rfl) ⟨by show cells + 6 + 0 ≤ 601024; omega, by show slots + 36 + 0 ≤ 7293034; omega⟩ (fun r V2 G2 hM => ?_)
  have hst := q_sim_bead h (xs (i + 1)) (xs (i + 2)) (xs (i + 3)) hL hM
  refine q_istore C [(6, .int r), (5, .int k), (0, .ref b), (1, .ref (σ.2.1 0)), (2, .ref (σ.2.1 19)), (3, .ref (σ.2.1 18)), (4, .int (nI i))] dL_law_619 (by decide) rfl ?_
  refine q_aload_n C dL_law_621 rfl 4 rfl ?_
  refine q_callVi C (As := []) (rest := []) (k := 19) (by omega) q_enMO rfl rfl (kX3_thrown l σ V2 G2) 0 gL_law_X3_thrown rfl rfl rfl ⟨by decide +kernel, by decide +kernel, by decide +kernel⟩ ⟨Nat.le_of_ble_eq_true rfl, Nat.le_of_ble_eq_true rfl⟩ dL_law_622 rfl (Nat.le_of_ble_eq_true rfl) ⟨by show cells + 6 + 0 + 0 ≤ 601024; omega, by show slots + 36 + 0 + 0 ≤ 7293034; omega⟩ (fun t3 V3 G3 hT => ?_)
  obtain ⟨rfl, rfl, rfl⟩ := hT
  refine q_iload C dL_law_625 1 rfl ?_
  refine q_icmp_eq C 632 dL_law_627 (by decide) (fun c1 => ?_) (fun c1 => absurd hst.1 c1)
  refine q_iload C dL_law_632 1 rfl ?_
  refine q_if_ne C 649 dL_law_634 (by decide) (fun c2 => ?_) (fun c2 => ?_)
  · skip
    refine q_goto C 1753 dL_law_649 (by decide) ?_
    exact q_sub [2, 3, 4, 5, 6] rfl (w_widen (by omega) (by omega) (kk V2 G2 hst.2.2))
  · have hk0 : k = 0 := c2
    have ho := hst.2.1 hk0
    refine q_aload_n C dL_law_637 rfl 5 rfl ?_
    refine q_iconst C (nI 0) dL_law_638 (by decide) ?_
    refine q_laldN C (n := 1) ⟨by omega, rfl, rfl⟩ (by omega : 0 < 1) (by omega) dL_law_639 ?_
    rw [ho]
    refine q_iload C dL_law_640 0 rfl ?_
    refine q_i2l C dL_law_642 ?_
    refine q_lcmp C dL_law_643 ?_
    rw [lg_cmp_self]
    refine q_if_eq C 649 dL_law_644 (by decide) (fun c3 => ?_) (fun c3 => absurd rfl c3)
    refine q_goto C 1753 dL_law_649 (by decide) ?_
    exact q_sub [2, 3, 4, 5, 6] rfl (w_widen (by omega) (by omega) (kk V2 G2 hst.2.2))
set_option maxHeartbeats 1000000 in
set_option maxRecDepth 20000 in
theorem w_pattern {σ : q_E} {p : Program} {e : Env} {s : State} {m : MethodId} {below : List Frame} {meth : Method} {c : Code} {Q : State → Prop} {b L : Nat} {xs : Nat → Int32} (l : Launch) (hlf : l.stackTraces = false) (C : q_C σ p s m #[Value.ref b] c cL_law 8 RL wsL_law) (X : w_X σ s b L xs) {V : q_V} {G : q_G} {n ns : Nat} (h : q_Rel V G n ns) {i cells slots : Nat} (hi : i + 4 ≤ L) (hcs : cells + 6 ≤ 601024 ∧ slots + 36 ≤ 7293034) (kk : ∀ (V9 : q_V) (G9 : q_G), (∃ n ns, q_Rel V9 G9 n ns) → q_W σ p l e room_1 s m #[Value.ref b] below meth c Q 8 (cells + 6) (slots + 36) V9 G9 (w_lv σ b i) 1753 []) : q_W σ p l e room_1 s m #[Value.ref b] below meth c Q 8 cells slots V G (w_lv σ b i) 652 [] := by
  have hh := h
  obtain ⟨h1, h2, h3, h4, h5, h6, h7, h8, h9, h10⟩ := hh
  refine q_aload_n C dL_law_652 rfl 1 rfl ?_
  refine q_aload_n C dL_law_653 rfl 0 rfl ?_
  refine q_iload C dL_law_654 4 rfl ?_
  refine q_iconst C (nI 1) dL_law_656 (by decide) ?_
  refine q_iaddN C dL_law_657 ?_
  refine w_sld C X (by omega) dL_law_658 ?_
  refine q_aload_n C dL_law_659 rfl 3 rfl ?_
  refine q_callWi C (As := [.ref (σ.2.1 0), .int (xs (i + 1)), .ref (σ.2.1 18)]) (rest := []) (kL_pattern l σ V G hlf h4.1 h4.2.2.1 (xs (i + 1))) 3 gL_law_L_pattern rfl rfl rfl ⟨by decide +kernel, by decide +kernel, by decide +kernel⟩ ⟨Nat.le_of_ble_eq_true rfl, Nat.le_of_ble_eq_true rfl⟩ dL_law_660 rfl (Nat.le_of_ble_eq_true rfl) ⟨hcs.1, hcs.2⟩ (fun k V1 G1 hL => ?_)
  have hm : q_m V V1 := by
    rcases hL with ⟨r9, V9, G9, hq, -, rfl, -⟩ | ⟨E9, hq, -⟩
    · obtain ⟨h9c, -, rfl, -⟩ := hq
      have h9n := (q_c2_of h9c).2
      have h9m : n < 12 := by have := h4.2.2.1; omega
      exact q_m_up (q_m_up (q_m_cpy (q_m_up (q_m_up (q_m_rf V) (by omega) _ _) (by omega) _ _) (by omega) _) (by omega) _ _) (by omega) _ _
    · obtain ⟨-, rfl, -⟩ := hq
      exact q_m_rf V
  refine q_istore C [(5, .int k), (0, .ref b), (1, .ref (σ.2.1 0)), (2, .ref (σ.2.1 19)), (3, .ref (σ.2.1 18)), (4, .int (nI i))] dL_law_663 (by decide) rfl ?_
  refine q_aload_n C dL_law_665 rfl 3 rfl ?_
  refine q_aload_n C dL_law_666 rfl 1 rfl ?_
  refine q_iload C dL_law_667 5 rfl ?_
  refine q_iconst C (nI 1) dL_law_669 (by decide) ?_
  refine q_iaddN C dL_law_670 ?_
  refine w_sld C X (by omega) dL_law_671 ?_
  refine q_callVi C (As := [.int (xs (i + 1))]) (rest := []) (k := 19) (by omega) q_enMO rfl rfl (kX3_pattern l σ V1 G1 (w_md h3 hm).1 (w_md h3 hm).2 h3.1.2.2.1 h3.1.2.2.2.1 h3.1.2.2.2.2.1 h3.1.2.2.2.2.2 (w_mp h4 hm).1 h4.2.2.1 (w_mp h4 hm).2 (xs (i + 1))) 1 gL_law_X3_pattern rfl rfl rfl ⟨by decide +kernel, by decide +kernel, by decide +kernel⟩ ⟨Nat.le_of_ble_eq_true rfl, Nat.le_of_ble_eq_true rfl⟩ dL_law_672 rfl (Nat.le_of_ble_eq_true rfl) ⟨by show cells + 6 + 0 ≤ 601024; omega, by show slots + 36 + 0 ≤ 7293034; omega⟩ (fun r V2 G2 hM => ?_)
  have hst := q_sim_pattern h (xs (i + 1)) hL hM
  refine q_istore C [(6, .int r), (5, .int k), (0, .ref b), (1, .ref (σ.2.1 0)), (2, .ref (σ.2.1 19)), (3, .ref (σ.2.1 18)), (4, .int (nI i))] dL_law_675 (by decide) rfl ?_
  refine q_aload_n C dL_law_677 rfl 4 rfl ?_
  refine q_callVi C (As := []) (rest := []) (k := 19) (by omega) q_enMO rfl rfl (kX3_thrown l σ V2 G2) 0 gL_law_X3_thrown rfl rfl rfl ⟨by decide +kernel, by decide +kernel, by decide +kernel⟩ ⟨Nat.le_of_ble_eq_true rfl, Nat.le_of_ble_eq_true rfl⟩ dL_law_678 rfl (Nat.le_of_ble_eq_true rfl) ⟨by show cells + 6 + 0 + 0 ≤ 601024; omega, by show slots + 36 + 0 + 0 ≤ 7293034; omega⟩ (fun t3 V3 G3 hT => ?_)
  obtain ⟨rfl, rfl, rfl⟩ := hT
  refine q_iload C dL_law_681 1 rfl ?_
  refine q_icmp_eq C 688 dL_law_683 (by decide) (fun c1 => ?_) (fun c1 => absurd hst.1 c1)
  refine q_iload C dL_law_688 1 rfl ?_
  refine q_if_ne C 705 dL_law_690 (by decide) (fun c2 => ?_) (fun c2 => ?_)
  · skip
    refine q_goto C 1753 dL_law_705 (by decide) ?_
    exact q_sub [2, 3, 4, 5, 6] rfl (w_widen (by omega) (by omega) (kk V2 G2 hst.2.2))
  · have hk0 : k = 0 := c2
    have ho := hst.2.1 hk0
    refine q_aload_n C dL_law_693 rfl 5 rfl ?_
    refine q_iconst C (nI 0) dL_law_694 (by decide) ?_
    refine q_laldN C (n := 1) ⟨by omega, rfl, rfl⟩ (by omega : 0 < 1) (by omega) dL_law_695 ?_
    rw [ho]
    refine q_iload C dL_law_696 0 rfl ?_
    refine q_i2l C dL_law_698 ?_
    refine q_lcmp C dL_law_699 ?_
    rw [lg_cmp_self]
    refine q_if_eq C 705 dL_law_700 (by decide) (fun c3 => ?_) (fun c3 => absurd rfl c3)
    refine q_goto C 1753 dL_law_705 (by decide) ?_
    exact q_sub [2, 3, 4, 5, 6] rfl (w_widen (by omega) (by omega) (kk V2 G2 hst.2.2))
