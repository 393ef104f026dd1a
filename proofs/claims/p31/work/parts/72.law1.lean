theorem zRel_mono {V : q_V} {G : q_G} {B B2 n ns g0 : Nat} {gp gs : Nat → Nat} (h : zRel V G B n ns g0 gp gs) (hB : B ≤ B2) : zRel V G B2 n ns g0 gp gs := by
  obtain ⟨h1, h2, h⟩ := h
  refine ⟨fun p c hp hc => ?_, fun c hc => ?_, h⟩
  · obtain ⟨a1, m, a2, a3⟩ := h1 p c hp hc
    exact ⟨a1, m, by omega, a3⟩
  · obtain ⟨a1, ⟨m, a2, a3⟩, a4⟩ := h2 c hc
    exact ⟨a1, ⟨m, by omega, a3⟩, a4⟩
theorem z_ex_pos {x y : Nat} (h : 1 ≤ x) : 1 ≤ x + y := by omega
set_option maxHeartbeats 1000000 in
set_option maxRecDepth 100000 in
/-- the end of a turn: grids and same -/
theorem w_tail {σ : q_E} {p : Program} {e : Env} {s : State} {m : MethodId} {below : List Frame} {meth : Method} {c : Code} {Q : State → Prop} {b : Nat} (l : Launch) (hlf : l.stackTraces = false) (C : q_C σ p s m #[Value.ref b] c cL_law 21 RL wsL_law) {cells slots : Nat} (hce : cells + 960 ≤ 658728) (hse : slots + 5760 ≤ 7125285) {V : q_V} {G : q_G} {B9 t n ns g0 col ce se : Nat} {gp gs : Nat → Nat} (hrel : zRel V G B9 n ns g0 gp gs) (hB9 : B9 ≤ 30 * (t + 1)) (ht : t < 50) (hcol : col < 8) (h1 : ce ≤ cells + 40) (h2 : se ≤ slots + 240) (kk : z_K σ p l e s m b below meth c Q cells slots t) : q_W σ p l e room_1 s m #[Value.ref b] below meth c Q 21 ce se V G [(15, .int (nI col)), (10, .int (nI t)), (0, .ref b), (1, .ref (σ.2.1 0)), (2, .ref (σ.2.1 69)), (3, .ref (σ.2.1 70)), (4, .ref (σ.2.1 71)), (5, .ref (σ.2.1 72)), (6, .ref (σ.2.1 73)), (7, .ref (σ.2.1 74)), (8, .ref (σ.2.1 19)), (9, .ref (σ.2.1 18))] 1572 [] := by
  refine q_aload_n C dL_law_1572 rfl 3 rfl ?_
  refine q_aload_n C dL_law_1573 rfl 4 rfl ?_
  refine q_aload_n C dL_law_1574 rfl 5 rfl ?_
  refine q_aload C dL_law_1575 11 rfl ?_
  refine q_iload C dL_law_1577 0 rfl ?_
  refine q_callSi C (As := [.ref (σ.2.1 0), .ref (σ.2.1 69), .ref (σ.2.1 70), .ref (σ.2.1 18), .int (nI col)]) (rest := []) (kL_grids l σ V G hlf hrel.2.2.2.1 hrel.2.2.2.2.1 hrel.2.2.2.2.2.1 hcol) 5 gL_law_L_grids rfl rfl rfl (by decide +kernel) ⟨Nat.le_of_ble_eq_true rfl, Nat.le_of_ble_eq_true rfl⟩ dL_law_1579 rfl (Nat.le_of_ble_eq_true rfl) ⟨by show _ ≤ 658728; omega, by show _ ≤ 7125285; omega⟩ (fun r_1579 V_1 G_2 hq_1579 => ?_)
  obtain ⟨rfl, rfl, rfl⟩ := hq_1579
  refine q_if_eq C 1618 dL_law_1582 (by decide) (fun c_1582 => absurd c_1582 (by decide)) (fun _ => ?_)
  refine q_aload_n C dL_law_1585 rfl 3 rfl ?_
  refine q_aload_n C dL_law_1586 rfl 4 rfl ?_
  refine q_aload C dL_law_1587 6 rfl ?_
  refine q_aload C dL_law_1589 7 rfl ?_
  refine q_aload C dL_law_1591 8 rfl ?_
  refine q_aload C dL_law_1593 9 rfl ?_
  refine q_aload C dL_law_1595 10 rfl ?_
  refine q_iload C dL_law_1597 1 rfl ?_
  refine q_bipush C (nI 8) dL_law_1599 (by decide) ?_
  refine q_iremN C dL_law_1601 (by omega) (by omega) (by omega) ?_
  refine q_bipush C (nI 7) dL_law_1602 (by decide) ?_
  refine q_icmp_neN C 1611 dL_law_1604 (by decide) (by omega) (by omega) (fun c_1604 => ?_) (fun c_1604 => ?_)
  · skip
    refine q_iconst C (nI 0) dL_law_1611 (by decide) ?_
    refine q_callSi C (As := [.ref (σ.2.1 0), .ref (σ.2.1 69), .ref (σ.2.1 71), .ref (σ.2.1 72), .ref (σ.2.1 73), .ref (σ.2.1 74), .ref (σ.2.1 19), .int (nI 0)]) (rest := []) (kL_same l σ V G hlf hrel (by omega) ((nI 0))) 8 gL_law_L_same rfl rfl rfl (by decide +kernel) ⟨Nat.le_of_ble_eq_true rfl, Nat.le_of_ble_eq_true rfl⟩ dL_law_1612 rfl (Nat.le_of_ble_eq_true rfl) ⟨by show _ ≤ 658728; omega, by show _ ≤ 7125285; omega⟩ (fun r_1612 V_3 G_4 hq_1612 => ?_)
    obtain ⟨rfl, hbo_1612, rfl⟩ := hq_1612
    refine q_if_ne C 1620 dL_law_1615 (by decide) (fun _ => ?_) (fun c_1615 => absurd c_1615 (by decide))
    refine q_sub (lv' := [(10, .int (nI t)), (0, .ref b), (1, .ref (σ.2.1 0)), (2, .ref (σ.2.1 69)), (3, .ref (σ.2.1 70)), (4, .ref (σ.2.1 71)), (5, .ref (σ.2.1 72)), (6, .ref (σ.2.1 73)), (7, .ref (σ.2.1 74)), (8, .ref (σ.2.1 19)), (9, .ref (σ.2.1 18))]) [1, 2, 3, 4, 5, 6, 7, 8, 9, 10, 11] rfl ?_
    exact kk _ _ _ _ _ _ _ _ _ (zRel_mono (zRel_boff hrel hbo_1612) hB9) (by omega) (by omega)
  · skip
    refine q_iconst C (nI 1) dL_law_1607 (by decide) ?_
    refine q_goto C 1612 dL_law_1608 (by decide) ?_
    refine q_callSi C (As := [.ref (σ.2.1 0), .ref (σ.2.1 69), .ref (σ.2.1 71), .ref (σ.2.1 72), .ref (σ.2.1 73), .ref (σ.2.1 74), .ref (σ.2.1 19), .int (nI 1)]) (rest := []) (kL_same l σ V G hlf hrel (by omega) ((nI 1))) 8 gL_law_L_same rfl rfl rfl (by decide +kernel) ⟨Nat.le_of_ble_eq_true rfl, Nat.le_of_ble_eq_true rfl⟩ dL_law_1612 rfl (Nat.le_of_ble_eq_true rfl) ⟨by show _ ≤ 658728; omega, by show _ ≤ 7125285; omega⟩ (fun r_1612 V_5 G_6 hq_1612 => ?_)
    obtain ⟨rfl, hbo_1612, rfl⟩ := hq_1612
    refine q_if_ne C 1620 dL_law_1615 (by decide) (fun _ => ?_) (fun c_1615 => absurd c_1615 (by decide))
    refine q_sub (lv' := [(10, .int (nI t)), (0, .ref b), (1, .ref (σ.2.1 0)), (2, .ref (σ.2.1 69)), (3, .ref (σ.2.1 70)), (4, .ref (σ.2.1 71)), (5, .ref (σ.2.1 72)), (6, .ref (σ.2.1 73)), (7, .ref (σ.2.1 74)), (8, .ref (σ.2.1 19)), (9, .ref (σ.2.1 18))]) [1, 2, 3, 4, 5, 6, 7, 8, 9, 10, 11] rfl ?_
    exact kk _ _ _ _ _ _ _ _ _ (zRel_mono (zRel_boff hrel hbo_1612) hB9) (by omega) (by omega)
