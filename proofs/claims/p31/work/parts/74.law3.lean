theorem z_gok18 {V : q_V} {w h j : Nat} {v : Int32} (hd : q_gok V 0 w h) : q_gok (q_up V 18 j v) 0 w h := ⟨(q_up_ne _ _ (by omega)).trans hd.1, (q_up_ne _ _ (by omega)).trans hd.2.1, hd.2.2⟩
theorem z_or_y {gp : Nat → Nat} {g0 n j o : Nat} (hj : 1 ≤ j) (hn : j ≤ n) (hh : z_hit gp g0 (j - 1)) (h : z_or gp g0 n j o) : z_or gp g0 n (j - 1) (j - 1) :=
  ⟨Or.inr ⟨Nat.le_refl _, by omega, hh⟩, fun k h1 h2 => absurd h1 (by omega)⟩
theorem z_or_n {gp : Nat → Nat} {g0 n j o : Nat} (hj : 1 ≤ j) (hn : j ≤ n) (hh : ¬ z_hit gp g0 (j - 1)) (h : z_or gp g0 n j o) : z_or gp g0 n (j - 1) o :=
  ⟨h.1.imp id (fun z => ⟨by omega, z.2⟩), fun k h1 h2 h3 => by
    rcases Nat.lt_or_ge k j with q | q
    · rw [show k = j - 1 by omega]; exact hh
    · exact h.2 k q h2 h3⟩
set_option maxHeartbeats 1000000 in
set_option maxRecDepth 100000 in
/-- three cells are painted -/
theorem w_beads {σ : q_E} {p : Program} {e : Env} {s : State} {m : MethodId} {below : List Frame} {meth : Method} {c : Code} {Q : State → Prop} {b : Nat} (l : Launch) (hlf : l.stackTraces = false) (C : q_C σ p s m #[Value.ref b] c cL_law 21 RL wsL_law) {cells slots : Nat} (hce : cells + 960 ≤ 658728) (hse : slots + 5760 ≤ 7125285) {V : q_V} {G : q_G} {t n ns g0 : Nat} {gp gs : Nat → Nat} (hrel : zRel V G (30 * t) n ns g0 gp gs) (ht : t < 50) {wh col : Nat} (hwh : wh < 5) (hcol : col < 8) (y : Int32) (kk : z_K σ p l e s m b below meth c Q cells slots t) : q_W σ p l e room_1 s m #[Value.ref b] below meth c Q 21 cells slots V G [(15, .int (nI col)), (14, .int (nI wh)), (12, .int y), (10, .int (nI t)), (0, .ref b), (1, .ref (σ.2.1 0)), (2, .ref (σ.2.1 69)), (3, .ref (σ.2.1 70)), (4, .ref (σ.2.1 71)), (5, .ref (σ.2.1 72)), (6, .ref (σ.2.1 73)), (7, .ref (σ.2.1 74)), (8, .ref (σ.2.1 19)), (9, .ref (σ.2.1 18))] 451 [] := by
  refine q_iconst C (nI 0) dL_law_451 (by decide) ?_
  refine q_istore C [(16, .int (nI 0)), (15, .int (nI col)), (14, .int (nI wh)), (12, .int y), (10, .int (nI t)), (0, .ref b), (1, .ref (σ.2.1 0)), (2, .ref (σ.2.1 69)), (3, .ref (σ.2.1 70)), (4, .ref (σ.2.1 71)), (5, .ref (σ.2.1 72)), (6, .ref (σ.2.1 73)), (7, .ref (σ.2.1 74)), (8, .ref (σ.2.1 19)), (9, .ref (σ.2.1 18))] dL_law_452 (by decide) rfl ?_
  have L_1 : ∀ (nL_1 : Nat) (k ce se : Nat) (W : q_V) (g1 : Nat) (hk : k ≤ 3) (hrl : zRel W G (30 * t) n ns g1 gp gs) (hce2 : ce ≤ cells + 6 * k) (hse2 : se ≤ slots + 36 * k), 3 - k < nL_1 → q_W σ p l e room_1 s m #[Value.ref b] below meth c Q 21 ce se W G [(16, .int (nI k)), (0, .ref b), (1, .ref (σ.2.1 0)), (2, .ref (σ.2.1 69)), (3, .ref (σ.2.1 70)), (4, .ref (σ.2.1 71)), (5, .ref (σ.2.1 72)), (6, .ref (σ.2.1 73)), (7, .ref (σ.2.1 74)), (8, .ref (σ.2.1 19)), (9, .ref (σ.2.1 18)), (10, .int (nI t)), (12, .int y), (14, .int (nI wh)), (15, .int (nI col))] 454 [] := by
    intro nL_1
    induction nL_1 with
    | zero => intro k ce se W g1 hk hrl hce2 hse2 h; exact absurd h (Nat.not_lt_zero _)
    | succ nL_1 ihL_1 =>
      intro k ce se W g1 hk hrl hce2 hse2 hmL_1
      refine q_iload C dL_law_454 0 rfl ?_
      refine q_iconst C (nI 3) dL_law_456 (by decide) ?_
      refine q_icmp_geN C 603 dL_law_457 (by decide) (by omega) (by omega) (fun c_457 => ?_) (fun c_457 => ?_)
      · skip
        refine q_goto C 1572 dL_law_603 (by decide) ?_
        refine q_sub (lv' := [(15, .int (nI col)), (10, .int (nI t)), (0, .ref b), (1, .ref (σ.2.1 0)), (2, .ref (σ.2.1 69)), (3, .ref (σ.2.1 70)), (4, .ref (σ.2.1 71)), (5, .ref (σ.2.1 72)), (6, .ref (σ.2.1 73)), (7, .ref (σ.2.1 74)), (8, .ref (σ.2.1 19)), (9, .ref (σ.2.1 18))]) [14, 11, 1, 2, 3, 4, 5, 6, 7, 8, 9, 10] rfl ?_
        exact w_tail l hlf C hce hse (hrl) (by omega) ht hcol (by omega) (by omega) kk
      · skip
        refine q_iload C dL_law_460 12 rfl ?_
        refine q_bipush C (nI 6) dL_law_462 (by decide) ?_
        refine q_iload C dL_law_464 0 rfl ?_
        refine q_imulN C dL_law_466  ?_
        refine q_ishr C dL_law_467 ?_
        refine q_iconst C (nI 3) dL_law_468 (by decide) ?_
        refine q_callSi C (As := [.int (y >>> (nI (6 * k) &&& 31)), .int (nI 3)]) (rest := []) (kL_low l σ W G ((y >>> (nI (6 * k) &&& 31))) (n := 3) (by omega) (by omega)) 2 gL_law_L_low rfl rfl rfl (by decide +kernel) ⟨Nat.le_of_ble_eq_true rfl, Nat.le_of_ble_eq_true rfl⟩ dL_law_469 rfl (Nat.le_of_ble_eq_true rfl) ⟨by show _ ≤ 658728; omega, by show _ ≤ 7125285; omega⟩ (fun r_469 V_2 G_3 hq_469 => ?_)
        obtain ⟨⟨lo_469, hlo_469, rfl⟩, rfl, rfl⟩ := hq_469
        refine q_istore C [(17, .int (nI lo_469)), (16, .int (nI k)), (0, .ref b), (1, .ref (σ.2.1 0)), (2, .ref (σ.2.1 69)), (3, .ref (σ.2.1 70)), (4, .ref (σ.2.1 71)), (5, .ref (σ.2.1 72)), (6, .ref (σ.2.1 73)), (7, .ref (σ.2.1 74)), (8, .ref (σ.2.1 19)), (9, .ref (σ.2.1 18)), (10, .int (nI t)), (12, .int y), (14, .int (nI wh)), (15, .int (nI col))] dL_law_472 (by decide) rfl ?_
        refine q_iload C dL_law_474 13 rfl ?_
        refine q_bipush C (nI 6) dL_law_476 (by decide) ?_
        refine q_iload C dL_law_478 1 rfl ?_
        refine q_imulN C dL_law_480  ?_
        refine q_iconst C (nI 2) dL_law_481 (by decide) ?_
        refine q_iaddN C dL_law_482  ?_
        refine q_ishr C dL_law_483 ?_
        refine q_iconst C (nI 3) dL_law_484 (by decide) ?_
        refine q_callSi C (As := [.int (y >>> (nI ((6 * k) + 2) &&& 31)), .int (nI 3)]) (rest := []) (kL_low l σ W G ((y >>> (nI ((6 * k) + 2) &&& 31))) (n := 3) (by omega) (by omega)) 2 gL_law_L_low rfl rfl rfl (by decide +kernel) ⟨Nat.le_of_ble_eq_true rfl, Nat.le_of_ble_eq_true rfl⟩ dL_law_485 rfl (Nat.le_of_ble_eq_true rfl) ⟨by show _ ≤ 658728; omega, by show _ ≤ 7125285; omega⟩ (fun r_485 V_4 G_5 hq_485 => ?_)
        obtain ⟨⟨lo_485, hlo_485, rfl⟩, rfl, rfl⟩ := hq_485
        refine q_istore C [(18, .int (nI lo_485)), (17, .int (nI lo_469)), (16, .int (nI k)), (0, .ref b), (1, .ref (σ.2.1 0)), (2, .ref (σ.2.1 69)), (3, .ref (σ.2.1 70)), (4, .ref (σ.2.1 71)), (5, .ref (σ.2.1 72)), (6, .ref (σ.2.1 73)), (7, .ref (σ.2.1 74)), (8, .ref (σ.2.1 19)), (9, .ref (σ.2.1 18)), (10, .int (nI t)), (12, .int y), (14, .int (nI wh)), (15, .int (nI col))] dL_law_488 (by decide) rfl ?_
        refine q_iload C dL_law_490 14 rfl ?_
        refine q_bipush C (nI 6) dL_law_492 (by decide) ?_
        refine q_iload C dL_law_494 2 rfl ?_
        refine q_imulN C dL_law_496  ?_
        refine q_iconst C (nI 4) dL_law_497 (by decide) ?_
        refine q_iaddN C dL_law_498  ?_
        refine q_ishr C dL_law_499 ?_
        refine q_iconst C (nI 2) dL_law_500 (by decide) ?_
        refine q_callSi C (As := [.int (y >>> (nI ((6 * k) + 4) &&& 31)), .int (nI 2)]) (rest := []) (kL_low l σ W G ((y >>> (nI ((6 * k) + 4) &&& 31))) (n := 2) (by omega) (by omega)) 2 gL_law_L_low rfl rfl rfl (by decide +kernel) ⟨Nat.le_of_ble_eq_true rfl, Nat.le_of_ble_eq_true rfl⟩ dL_law_501 rfl (Nat.le_of_ble_eq_true rfl) ⟨by show _ ≤ 658728; omega, by show _ ≤ 7125285; omega⟩ (fun r_501 V_6 G_7 hq_501 => ?_)
        obtain ⟨⟨lo_501, hlo_501, rfl⟩, rfl, rfl⟩ := hq_501
        have hits : lo_501 * col < 8 := by
          have := Nat.mul_le_mul (show lo_501 ≤ 1 by omega) (show col ≤ 7 by omega)
          omega
        refine q_iload C dL_law_504 16 rfl ?_
        refine q_imulN C dL_law_506  ?_
        refine q_istore C [(19, .int (nI (lo_501 * col))), (18, .int (nI lo_485)), (17, .int (nI lo_469)), (16, .int (nI k)), (0, .ref b), (1, .ref (σ.2.1 0)), (2, .ref (σ.2.1 69)), (3, .ref (σ.2.1 70)), (4, .ref (σ.2.1 71)), (5, .ref (σ.2.1 72)), (6, .ref (σ.2.1 73)), (7, .ref (σ.2.1 74)), (8, .ref (σ.2.1 19)), (9, .ref (σ.2.1 18)), (10, .int (nI t)), (12, .int y), (14, .int (nI wh)), (15, .int (nI col))] dL_law_507 (by decide) rfl ?_
        obtain ⟨q31, qw1, qw3, qh1, qh3, -⟩ := hrl.2.2.1.2.1
        refine q_iload C dL_law_509 2 rfl ?_
        refine q_aload C dL_law_511 13 rfl ?_
        refine q_iconst C (nI 0) dL_law_513 (by decide) ?_
        refine q_ialdN C (k := 18) (n := 3) ⟨by decide, by decide, by decide⟩ (by omega) (by decide) dL_law_514 ?_
        refine q_stk (st' := [.int (nI g1), .int (nI lo_469)]) (congrArg (fun z => Value.int z :: [.int (nI lo_469)]) (hrl.2.2.1.1)) ?_
        refine q_callSi C (As := [.int (nI g1)]) (rest := [.int (nI lo_469)]) (kL_wide l σ W G (g := g1) (by omega)) 1 gL_law_L_wide rfl rfl rfl (by decide +kernel) ⟨Nat.le_of_ble_eq_true rfl, Nat.le_of_ble_eq_true rfl⟩ dL_law_515 rfl (Nat.le_of_ble_eq_true rfl) ⟨by show _ ≤ 658728; omega, by show _ ≤ 7125285; omega⟩ (fun r_515 V_8 G_9 hq_515 => ?_)
        obtain ⟨rfl, rfl, rfl⟩ := hq_515
        refine q_icmp_geN C 533 dL_law_518 (by decide) (by omega) (by omega) (fun c_518 => ?_) (fun c_518 => ?_)
        · skip
          refine q_aload_n C dL_law_533 rfl 5 rfl ?_
          refine q_iconst C (nI 5) dL_law_534 (by decide) ?_
          refine q_iload C dL_law_535 2 rfl ?_
          refine q_iload C dL_law_537 1 rfl ?_
          refine q_iload C dL_law_539 0 rfl ?_
          refine q_callWi C (As := [.ref (σ.2.1 0), .int (nI 5), .int (nI lo_469), .int (nI lo_485), .int (nI (lo_501 * col))]) (rest := []) (zM_noBead l σ W G hlf (cn := lo_469) (ln := lo_485) hrl.2.2.1.2.2.1 ⟨hlo_469, hlo_485⟩ (by omega) (nI (lo_501 * col))) 5 gL_law_L_refused rfl rfl rfl (by decide +kernel) ⟨Nat.le_of_ble_eq_true rfl, Nat.le_of_ble_eq_true rfl⟩ dL_law_541 rfl (Nat.le_of_ble_eq_true rfl) ⟨by show _ ≤ 658728; omega, by show _ ≤ 7125285; omega⟩ (fun r_541 V_10 G_11 hq_541 => ?_)
          obtain ⟨rfl, rfl, rfl⟩ := hq_541
          refine q_iconst C (nI 1) dL_law_544 (by decide) ?_
          refine q_icmp_eqN C 597 dL_law_545 (by decide) (by omega) (by omega) (fun _ => ?_) (fun c_545 => absurd c_545 (by omega))
          refine q_iincN C [(16, .int (nI (k + 1))), (19, .int (nI (lo_501 * col))), (18, .int (nI lo_485)), (17, .int (nI lo_469)), (0, .ref b), (1, .ref (σ.2.1 0)), (2, .ref (σ.2.1 69)), (3, .ref (σ.2.1 70)), (4, .ref (σ.2.1 71)), (5, .ref (σ.2.1 72)), (6, .ref (σ.2.1 73)), (7, .ref (σ.2.1 74)), (8, .ref (σ.2.1 19)), (9, .ref (σ.2.1 18)), (10, .int (nI t)), (12, .int y), (14, .int (nI wh)), (15, .int (nI col))] dL_law_597 3 rfl (by decide) rfl ?_
          refine q_goto C 454 dL_law_600 (by decide) ?_
          refine q_sub (lv' := [(16, .int (nI (k + 1))), (0, .ref b), (1, .ref (σ.2.1 0)), (2, .ref (σ.2.1 69)), (3, .ref (σ.2.1 70)), (4, .ref (σ.2.1 71)), (5, .ref (σ.2.1 72)), (6, .ref (σ.2.1 73)), (7, .ref (σ.2.1 74)), (8, .ref (σ.2.1 19)), (9, .ref (σ.2.1 18)), (10, .int (nI t)), (12, .int y), (14, .int (nI wh)), (15, .int (nI col))]) [0, 4, 5, 6, 7, 8, 9, 10, 11, 12, 13, 14, 15, 16, 17] rfl ?_
          exact ihL_1 (k + 1) _ _ W g1 (by omega) hrl (by omega) (by omega) (by omega)
        · skip
          refine q_iload C dL_law_521 1 rfl ?_
          refine q_aload C dL_law_523 13 rfl ?_
          refine q_iconst C (nI 0) dL_law_525 (by decide) ?_
          refine q_ialdN C (k := 18) (n := 3) ⟨by decide, by decide, by decide⟩ (by omega) (by decide) dL_law_526 ?_
          refine q_stk (st' := [.int (nI g1), .int (nI lo_485)]) (congrArg (fun z => Value.int z :: [.int (nI lo_485)]) (hrl.2.2.1.1)) ?_
          refine q_callSi C (As := [.int (nI g1)]) (rest := [.int (nI lo_485)]) (kL_high l σ W G (g := g1) (by omega)) 1 gL_law_L_high rfl rfl rfl (by decide +kernel) ⟨Nat.le_of_ble_eq_true rfl, Nat.le_of_ble_eq_true rfl⟩ dL_law_527 rfl (Nat.le_of_ble_eq_true rfl) ⟨by show _ ≤ 658728; omega, by show _ ≤ 7125285; omega⟩ (fun r_527 V_12 G_13 hq_527 => ?_)
          obtain ⟨rfl, rfl, rfl⟩ := hq_527
          refine q_icmp_ltN C 550 dL_law_530 (by decide) (by omega) (by omega) (fun c_530 => ?_) (fun c_530 => ?_)
          · skip
            refine q_aload C dL_law_550 13 rfl ?_
            refine q_iconst C (nI 0) dL_law_552 (by decide) ?_
            refine q_ialdN C (k := 18) (n := 3) ⟨by decide, by decide, by decide⟩ (by omega) (by decide) dL_law_553 ?_
            refine q_stk (st' := [.int (nI g1)]) (congrArg (fun z => Value.int z :: []) (hrl.2.2.1.1)) ?_
            refine q_iload C dL_law_554 2 rfl ?_
            refine q_iload C dL_law_556 1 rfl ?_
            refine q_callSi C (As := [.int (nI g1), .int (nI lo_469), .int (nI lo_485)]) (rest := []) (kL_at l σ W G (g := g1) (x := lo_469) (y := lo_485) (by omega) (by omega) (by omega)) 3 gL_law_L_at rfl rfl rfl (by decide +kernel) ⟨Nat.le_of_ble_eq_true rfl, Nat.le_of_ble_eq_true rfl⟩ dL_law_558 rfl (Nat.le_of_ble_eq_true rfl) ⟨by show _ ≤ 658728; omega, by show _ ≤ 7125285; omega⟩ (fun r_558 V_14 G_15 hq_558 => ?_)
            obtain ⟨rfl, rfl, rfl⟩ := hq_558
            refine q_istore C [(20, .int (nI (gat g1 lo_469 lo_485))), (19, .int (nI (lo_501 * col))), (18, .int (nI lo_485)), (17, .int (nI lo_469)), (16, .int (nI k)), (0, .ref b), (1, .ref (σ.2.1 0)), (2, .ref (σ.2.1 69)), (3, .ref (σ.2.1 70)), (4, .ref (σ.2.1 71)), (5, .ref (σ.2.1 72)), (6, .ref (σ.2.1 73)), (7, .ref (σ.2.1 74)), (8, .ref (σ.2.1 19)), (9, .ref (σ.2.1 18)), (10, .int (nI t)), (12, .int y), (14, .int (nI wh)), (15, .int (nI col))] dL_law_561 (by decide) rfl ?_
            refine q_aload C dL_law_563 14 rfl ?_
            refine q_iconst C (nI 0) dL_law_565 (by decide) ?_
            refine q_aload C dL_law_566 14 rfl ?_
            refine q_iconst C (nI 0) dL_law_568 (by decide) ?_
            refine q_ialdN C (k := 18) (n := 3) ⟨by decide, by decide, by decide⟩ (by omega) (by decide) dL_law_569 ?_
            refine q_stk (st' := [.int (nI g1), .int (nI 0), .ref (σ.2.1 18)]) (congrArg (fun z => Value.int z :: [.int (nI 0), .ref (σ.2.1 18)]) (hrl.2.2.1.1)) ?_
            refine q_iload C dL_law_570 3 rfl ?_
            refine q_iload C dL_law_572 2 rfl ?_
            refine q_iload C dL_law_574 1 rfl ?_
            refine q_callSi C (As := [.int (nI g1), .int (nI lo_469), .int (nI lo_485), .int (nI (lo_501 * col))]) (rest := [.int (nI 0), .ref (σ.2.1 18)]) (kL_put l σ W G g1 (x := lo_469) (y := lo_485) (col := lo_501 * col) (by omega) (by omega) hits) 4 gL_law_L_put rfl rfl rfl (by decide +kernel) ⟨Nat.le_of_ble_eq_true rfl, Nat.le_of_ble_eq_true rfl⟩ dL_law_576 rfl (Nat.le_of_ble_eq_true rfl) ⟨by show _ ≤ 658728; omega, by show _ ≤ 7125285; omega⟩ (fun r_576 V_16 G_17 hq_576 => ?_)
            obtain ⟨rfl, rfl, rfl⟩ := hq_576
            refine q_iastN C (k := 18) (n := 3) ⟨by decide, by decide, by decide⟩ (by omega) (by decide) dL_law_579 ?_
            refine q_aload_n C dL_law_580 rfl 6 rfl ?_
            refine q_iload C dL_law_581 3 rfl ?_
            refine q_iload C dL_law_583 2 rfl ?_
            refine q_iload C dL_law_585 1 rfl ?_
            refine q_callVi C (As := [.int (nI lo_469), .int (nI lo_485), .int (nI (lo_501 * col))]) (rest := []) (k := 0) (by omega) q_enBP rfl rfl (zM_bead l σ (q_up W 18 0 (nI (gset g1 (3 * lo_485 + lo_469) (lo_501 * col)))) G hlf (cn := lo_469) (ln := lo_485) (z := lo_501 * col) (z_gok18 hrl.2.2.1.2.2.1) (by omega) (by omega) hits) 3 gL_law_X2_bead rfl rfl rfl (by decide +kernel) ⟨Nat.le_of_ble_eq_true rfl, Nat.le_of_ble_eq_true rfl⟩ dL_law_587 rfl (Nat.le_of_ble_eq_true rfl) ⟨by show _ ≤ 658728; omega, by show _ ≤ 7125285; omega⟩ (fun r_587 V_18 G_19 hq_587 => ?_)
            obtain ⟨hr_587, rfl, rfl⟩ := hq_587
            have hr2 := ((hrl.2.2.1.2.2.2 lo_469 lo_485 (by omega) (by omega)).symm.trans (q_up_ne W (nI (gset g1 (3 * lo_485 + lo_469) (lo_501 * col))) (k := 18) (j := 0) (by omega)).symm).trans hr_587
            subst hr2
            refine q_iload C dL_law_590 0 rfl ?_
            refine q_icmp_eq C 597 dL_law_592 (by decide) (fun c_592 => ?_) (fun c_592 => absurd c_592 (by exact fun z => z rfl))
            refine q_iincN C [(16, .int (nI (k + 1))), (20, .int (nI (gat g1 lo_469 lo_485))), (19, .int (nI (lo_501 * col))), (18, .int (nI lo_485)), (17, .int (nI lo_469)), (0, .ref b), (1, .ref (σ.2.1 0)), (2, .ref (σ.2.1 69)), (3, .ref (σ.2.1 70)), (4, .ref (σ.2.1 71)), (5, .ref (σ.2.1 72)), (6, .ref (σ.2.1 73)), (7, .ref (σ.2.1 74)), (8, .ref (σ.2.1 19)), (9, .ref (σ.2.1 18)), (10, .int (nI t)), (12, .int y), (14, .int (nI wh)), (15, .int (nI col))] dL_law_597 4 rfl (by decide) rfl ?_
            refine q_goto C 454 dL_law_600 (by decide) ?_
            refine q_sub (lv' := [(16, .int (nI (k + 1))), (0, .ref b), (1, .ref (σ.2.1 0)), (2, .ref (σ.2.1 69)), (3, .ref (σ.2.1 70)), (4, .ref (σ.2.1 71)), (5, .ref (σ.2.1 72)), (6, .ref (σ.2.1 73)), (7, .ref (σ.2.1 74)), (8, .ref (σ.2.1 19)), (9, .ref (σ.2.1 18)), (10, .int (nI t)), (12, .int y), (14, .int (nI wh)), (15, .int (nI col))]) [0, 5, 6, 7, 8, 9, 10, 11, 12, 13, 14, 15, 16, 17, 18] rfl ?_
            exact ihL_1 (k + 1) _ _ _ (gset g1 (3 * lo_485 + lo_469) (lo_501 * col)) (by omega) (z_bead hrl (by omega) (by omega) hits) (by omega) (by omega) (by omega)
          · skip
            refine q_aload_n C dL_law_533 rfl 5 rfl ?_
            refine q_iconst C (nI 5) dL_law_534 (by decide) ?_
            refine q_iload C dL_law_535 2 rfl ?_
            refine q_iload C dL_law_537 1 rfl ?_
            refine q_iload C dL_law_539 0 rfl ?_
            refine q_callWi C (As := [.ref (σ.2.1 0), .int (nI 5), .int (nI lo_469), .int (nI lo_485), .int (nI (lo_501 * col))]) (rest := []) (zM_noBead l σ W G hlf (cn := lo_469) (ln := lo_485) hrl.2.2.1.2.2.1 ⟨hlo_469, hlo_485⟩ (by omega) (nI (lo_501 * col))) 5 gL_law_L_refused rfl rfl rfl (by decide +kernel) ⟨Nat.le_of_ble_eq_true rfl, Nat.le_of_ble_eq_true rfl⟩ dL_law_541 rfl (Nat.le_of_ble_eq_true rfl) ⟨by show _ ≤ 658728; omega, by show _ ≤ 7125285; omega⟩ (fun r_541 V_20 G_21 hq_541 => ?_)
            obtain ⟨rfl, rfl, rfl⟩ := hq_541
            refine q_iconst C (nI 1) dL_law_544 (by decide) ?_
            refine q_icmp_eqN C 597 dL_law_545 (by decide) (by omega) (by omega) (fun _ => ?_) (fun c_545 => absurd c_545 (by omega))
            refine q_iincN C [(16, .int (nI (k + 1))), (19, .int (nI (lo_501 * col))), (18, .int (nI lo_485)), (17, .int (nI lo_469)), (0, .ref b), (1, .ref (σ.2.1 0)), (2, .ref (σ.2.1 69)), (3, .ref (σ.2.1 70)), (4, .ref (σ.2.1 71)), (5, .ref (σ.2.1 72)), (6, .ref (σ.2.1 73)), (7, .ref (σ.2.1 74)), (8, .ref (σ.2.1 19)), (9, .ref (σ.2.1 18)), (10, .int (nI t)), (12, .int y), (14, .int (nI wh)), (15, .int (nI col))] dL_law_597 3 rfl (by decide) rfl ?_
            refine q_goto C 454 dL_law_600 (by decide) ?_
            refine q_sub (lv' := [(16, .int (nI (k + 1))), (0, .ref b), (1, .ref (σ.2.1 0)), (2, .ref (σ.2.1 69)), (3, .ref (σ.2.1 70)), (4, .ref (σ.2.1 71)), (5, .ref (σ.2.1 72)), (6, .ref (σ.2.1 73)), (7, .ref (σ.2.1 74)), (8, .ref (σ.2.1 19)), (9, .ref (σ.2.1 18)), (10, .int (nI t)), (12, .int y), (14, .int (nI wh)), (15, .int (nI col))]) [0, 4, 5, 6, 7, 8, 9, 10, 11, 12, 13, 14, 15, 16, 17] rfl ?_
            exact ihL_1 (k + 1) _ _ W g1 (by omega) hrl (by omega) (by omega) (by omega)
  refine q_sub (lv' := [(16, .int (nI 0)), (0, .ref b), (1, .ref (σ.2.1 0)), (2, .ref (σ.2.1 69)), (3, .ref (σ.2.1 70)), (4, .ref (σ.2.1 71)), (5, .ref (σ.2.1 72)), (6, .ref (σ.2.1 73)), (7, .ref (σ.2.1 74)), (8, .ref (σ.2.1 19)), (9, .ref (σ.2.1 18)), (10, .int (nI t)), (12, .int y), (14, .int (nI wh)), (15, .int (nI col))]) [0, 5, 6, 7, 8, 9, 10, 11, 12, 13, 14, 4, 3, 2, 1] rfl ?_
  exact L_1 _ 0 _ _ V g0 (Nat.zero_le _) hrel (by omega) (by omega) (Nat.lt_succ_self _)
set_option maxHeartbeats 1000000 in
set_option maxRecDepth 100000 in
/-- a pattern is told -/
theorem w_pattern {σ : q_E} {p : Program} {e : Env} {s : State} {m : MethodId} {below : List Frame} {meth : Method} {c : Code} {Q : State → Prop} {b : Nat} (l : Launch) (hlf : l.stackTraces = false) (C : q_C σ p s m #[Value.ref b] c cL_law 21 RL wsL_law) {cells slots : Nat} (hce : cells + 960 ≤ 658728) (hse : slots + 5760 ≤ 7125285) {V : q_V} {G : q_G} {t n ns g0 : Nat} {gp gs : Nat → Nat} (hrel : zRel V G (30 * t) n ns g0 gp gs) (ht : t < 50) {wh col : Nat} (hwh : wh < 5) (hcol : col < 8) (y : Int32) (kk : z_K σ p l e s m b below meth c Q cells slots t) : q_W σ p l e room_1 s m #[Value.ref b] below meth c Q 21 cells slots V G [(15, .int (nI col)), (14, .int (nI wh)), (12, .int y), (10, .int (nI t)), (0, .ref b), (1, .ref (σ.2.1 0)), (2, .ref (σ.2.1 69)), (3, .ref (σ.2.1 70)), (4, .ref (σ.2.1 71)), (5, .ref (σ.2.1 72)), (6, .ref (σ.2.1 73)), (7, .ref (σ.2.1 74)), (8, .ref (σ.2.1 19)), (9, .ref (σ.2.1 18))] 613 [] := by
  have hn6 := hrel.2.2.2.1.2.2.1
  refine q_aload C dL_law_613 13 rfl ?_
  refine q_iconst C (nI 1) dL_law_615 (by decide) ?_
  refine q_ialdN C (k := 18) (n := 3) ⟨by decide, by decide, by decide⟩ (by omega) (by decide) dL_law_616 ?_
  refine q_stk (st' := [.int (nI n)]) (congrArg (fun z => Value.int z :: []) (hrel.2.2.2.1.2.1)) ?_
  refine q_bipush C (nI 6) dL_law_617 (by decide) ?_
  refine q_icmp_neN C 625 dL_law_619 (by decide) (by omega) (by omega) (fun c_619 => ?_) (fun c_619 => ?_)
  · skip
    have hn5 : n < 6 := by omega
    refine q_aload C dL_law_625 13 rfl ?_
    refine q_iconst C (nI 1) dL_law_627 (by decide) ?_
    refine q_ialdN C (k := 18) (n := 3) ⟨by decide, by decide, by decide⟩ (by omega) (by decide) dL_law_628 ?_
    refine q_stk (st' := [.int (nI n)]) (congrArg (fun z => Value.int z :: []) (hrel.2.2.2.1.2.1)) ?_
    refine q_istore C [(16, .int (nI n)), (15, .int (nI col)), (14, .int (nI wh)), (12, .int y), (10, .int (nI t)), (0, .ref b), (1, .ref (σ.2.1 0)), (2, .ref (σ.2.1 69)), (3, .ref (σ.2.1 70)), (4, .ref (σ.2.1 71)), (5, .ref (σ.2.1 72)), (6, .ref (σ.2.1 73)), (7, .ref (σ.2.1 74)), (8, .ref (σ.2.1 19)), (9, .ref (σ.2.1 18))] dL_law_629 (by decide) rfl ?_
    refine q_aload_n C dL_law_631 rfl 7 rfl ?_
    refine q_iconst C (nI 3) dL_law_632 (by decide) ?_
    refine q_iload C dL_law_633 0 rfl ?_
    refine q_imulN C dL_law_635  ?_
    refine q_aload C dL_law_636 14 rfl ?_
    refine q_iconst C (nI 0) dL_law_638 (by decide) ?_
    refine q_ialdN C (k := 18) (n := 3) ⟨by decide, by decide, by decide⟩ (by omega) (by decide) dL_law_639 ?_
    refine q_stk (st' := [.int (nI g0), .int (nI (3 * n)), .ref (σ.2.1 69)]) (congrArg (fun z => Value.int z :: [.int (nI (3 * n)), .ref (σ.2.1 69)]) (hrel.2.2.1.1)) ?_
    refine q_iastN C (k := 69) (n := 18) ⟨by decide, by decide, by decide⟩ (by omega) (by decide) dL_law_640 ?_
    refine q_aload_n C dL_law_641 rfl 7 rfl ?_
    refine q_iconst C (nI 3) dL_law_642 (by decide) ?_
    refine q_iload C dL_law_643 0 rfl ?_
    refine q_imulN C dL_law_645  ?_
    refine q_iconst C (nI 1) dL_law_646 (by decide) ?_
    refine q_iaddN C dL_law_647  ?_
    refine q_iload C dL_law_648 2 rfl ?_
    refine q_iastN C (k := 69) (n := 18) ⟨by decide, by decide, by decide⟩ (by omega) (by decide) dL_law_650 ?_
    refine q_aload_n C dL_law_651 rfl 7 rfl ?_
    refine q_iconst C (nI 3) dL_law_652 (by decide) ?_
    refine q_iload C dL_law_653 0 rfl ?_
    refine q_imulN C dL_law_655  ?_
    refine q_iconst C (nI 2) dL_law_656 (by decide) ?_
    refine q_iaddN C dL_law_657  ?_
    refine q_iload C dL_law_658 0 rfl ?_
    refine q_iastN C (k := 69) (n := 18) ⟨by decide, by decide, by decide⟩ (by omega) (by decide) dL_law_660 ?_
    refine q_iload C dL_law_661 0 rfl ?_
    refine q_iconst C (nI 1) dL_law_663 (by decide) ?_
    refine q_isub C dL_law_664 ?_
    refine q_istore C [(17, .int (nI n - nI 1)), (16, .int (nI n)), (15, .int (nI col)), (14, .int (nI wh)), (12, .int y), (10, .int (nI t)), (0, .ref b), (1, .ref (σ.2.1 0)), (2, .ref (σ.2.1 69)), (3, .ref (σ.2.1 70)), (4, .ref (σ.2.1 71)), (5, .ref (σ.2.1 72)), (6, .ref (σ.2.1 73)), (7, .ref (σ.2.1 74)), (8, .ref (σ.2.1 19)), (9, .ref (σ.2.1 18))] dL_law_665 (by decide) rfl ?_
    have L_1 : ∀ (nL_1 : Nat) (j o : Nat) (hj : j ≤ n) (ho : z_or gp g0 n j o), j < nL_1 → q_W σ p l e room_1 s m #[Value.ref b] below meth c Q 21 cells slots (q_up (q_up (q_up V 69 (3 * n) (nI g0)) 69 ((3 * n) + 1) (nI wh)) 69 ((3 * n) + 2) (nI o)) G [(17, .int ((nI j - nI 1))), (0, .ref b), (1, .ref (σ.2.1 0)), (2, .ref (σ.2.1 69)), (3, .ref (σ.2.1 70)), (4, .ref (σ.2.1 71)), (5, .ref (σ.2.1 72)), (6, .ref (σ.2.1 73)), (7, .ref (σ.2.1 74)), (8, .ref (σ.2.1 19)), (9, .ref (σ.2.1 18)), (10, .int (nI t)), (12, .int y), (14, .int (nI wh)), (15, .int (nI col)), (16, .int (nI n))] 667 [] := by
      intro nL_1
      induction nL_1 with
      | zero => intro j o hj ho h; exact absurd h (Nat.not_lt_zero _)
      | succ nL_1 ihL_1 =>
        intro j o hj ho hmL_1
        refine q_iload C dL_law_667 0 rfl ?_
        refine q_if_lt C 715 dL_law_669 (by decide) (fun c_669 => ?_) (fun c_669 => ?_)
        · skip
          have hj0 : j = 0 := (q_m1_lt (by omega)).mp c_669
          refine q_aload C dL_law_715 10 rfl ?_
          refine q_iconst C (nI 1) dL_law_717 (by decide) ?_
          refine q_dup2 C dL_law_718 rfl rfl ?_
          refine q_ialdN C (k := 18) (n := 3) ⟨by decide, by decide, by decide⟩ (by omega) (by decide) dL_law_719 ?_
          refine q_stk (st' := [.int (V 18 1), .int (nI 1), .ref (σ.2.1 18)]) (congrArg (fun z => Value.int z :: [.int (nI 1), .ref (σ.2.1 18)]) ((q_up_ne _ _ (by omega)).trans ((q_up_ne _ _ (by omega)).trans (q_up_ne _ _ (by omega))))) ?_
          refine q_stk (st' := [.int (nI n), .int (nI 1), .ref (σ.2.1 18)]) (congrArg (fun z => Value.int z :: [.int (nI 1), .ref (σ.2.1 18)]) (hrel.2.2.2.1.2.1)) ?_
          refine q_iconst C (nI 1) dL_law_720 (by decide) ?_
          refine q_iaddN C dL_law_721  ?_
          refine q_iastN C (k := 18) (n := 3) ⟨by decide, by decide, by decide⟩ (by omega) (by decide) dL_law_722 ?_
          refine q_aload_n C dL_law_723 rfl 2 rfl ?_
          refine q_iload C dL_law_724 13 rfl ?_
          refine q_callVi C (As := [.int (nI wh)]) (rest := []) (k := 0) (by omega) q_enBP rfl rfl (zM_pattern l σ (q_up (q_up (q_up (q_up V 69 (3 * n) (nI g0)) 69 ((3 * n) + 1) (nI wh)) 69 ((3 * n) + 2) (nI o)) 18 1 (nI (n + 1))) G hlf (n := n) (wh := wh) (x := nI (gwd g0)) (y := nI (ghi g0)) (((q_up_ne _ _ (by omega)).trans ((q_up_ne _ _ (by omega)).trans ((q_up_ne _ _ (by omega)).trans (q_up_ne _ _ (by omega))))).trans hrel.2.2.2.1.1) (by omega) (by omega) (((q_up_ne _ _ (by omega)).trans ((q_up_ne _ _ (by omega)).trans ((q_up_ne _ _ (by omega)).trans (q_up_ne _ _ (by omega))))).trans hrel.2.2.1.2.2.1.1) (((q_up_ne _ _ (by omega)).trans ((q_up_ne _ _ (by omega)).trans ((q_up_ne _ _ (by omega)).trans (q_up_ne _ _ (by omega))))).trans hrel.2.2.1.2.2.1.2.1)) 1 gL_law_X2_pattern rfl rfl rfl (by decide +kernel) ⟨Nat.le_of_ble_eq_true rfl, Nat.le_of_ble_eq_true rfl⟩ dL_law_726 rfl (Nat.le_of_ble_eq_true rfl) ⟨by show _ ≤ 658728; omega, by show _ ≤ 7125285; omega⟩ (fun r_726 V_2 G_3 hq_726 => ?_)
          obtain ⟨rfl, rfl, rfl⟩ := hq_726
          refine q_iload C dL_law_729 15 rfl ?_
          refine q_icmp_eq C 736 dL_law_731 (by decide) (fun c_731 => ?_) (fun c_731 => absurd c_731 (by exact fun z => z rfl))
          refine q_goto C 1572 dL_law_736 (by decide) ?_
          refine q_sub (lv' := [(15, .int (nI col)), (10, .int (nI t)), (0, .ref b), (1, .ref (σ.2.1 0)), (2, .ref (σ.2.1 69)), (3, .ref (σ.2.1 70)), (4, .ref (σ.2.1 71)), (5, .ref (σ.2.1 72)), (6, .ref (σ.2.1 73)), (7, .ref (σ.2.1 74)), (8, .ref (σ.2.1 19)), (9, .ref (σ.2.1 18))]) [14, 11, 1, 2, 3, 4, 5, 6, 7, 8, 9, 10] rfl ?_
          exact w_tail l hlf C hce hse (z_pattern hrel hn5 hwh (by rw [← hj0]; exact ho)) (by omega) ht hcol (by omega) (by omega) kk
        · skip
          have hj1 : 1 ≤ j := Nat.pos_of_ne_zero fun z => c_669 ((q_m1_lt (by omega)).mpr z)
          refine q_lve (lv' := [(17, .int (nI (j - 1))), (0, .ref b), (1, .ref (σ.2.1 0)), (2, .ref (σ.2.1 69)), (3, .ref (σ.2.1 70)), (4, .ref (σ.2.1 71)), (5, .ref (σ.2.1 72)), (6, .ref (σ.2.1 73)), (7, .ref (σ.2.1 74)), (8, .ref (σ.2.1 19)), (9, .ref (σ.2.1 18)), (10, .int (nI t)), (12, .int y), (14, .int (nI wh)), (15, .int (nI col)), (16, .int (nI n))]) (by rw [pk_sub hj1]) ?_
          refine q_aload_n C dL_law_672 rfl 3 rfl ?_
          refine q_iconst C (nI 3) dL_law_673 (by decide) ?_
          refine q_iload C dL_law_674 15 rfl ?_
          refine q_imulN C dL_law_676  ?_
          refine q_iconst C (nI 2) dL_law_677 (by decide) ?_
          refine q_iaddN C dL_law_678  ?_
          refine q_aload C dL_law_679 10 rfl ?_
          refine q_iconst C (nI 0) dL_law_681 (by decide) ?_
          refine q_ialdN C (k := 18) (n := 3) ⟨by decide, by decide, by decide⟩ (by omega) (by decide) dL_law_682 ?_
          refine q_stk (st' := [.int (V 18 0), .int (nI ((3 * n) + 2)), .ref (σ.2.1 69)]) (congrArg (fun z => Value.int z :: [.int (nI ((3 * n) + 2)), .ref (σ.2.1 69)]) ((q_up_ne _ _ (by omega)).trans ((q_up_ne _ _ (by omega)).trans (q_up_ne _ _ (by omega))))) ?_
          refine q_stk (st' := [.int (nI g0), .int (nI ((3 * n) + 2)), .ref (σ.2.1 69)]) (congrArg (fun z => Value.int z :: [.int (nI ((3 * n) + 2)), .ref (σ.2.1 69)]) (hrel.2.2.1.1)) ?_
          refine q_aload_n C dL_law_683 rfl 3 rfl ?_
          refine q_iconst C (nI 3) dL_law_684 (by decide) ?_
          refine q_iload C dL_law_685 0 rfl ?_
          refine q_imulN C dL_law_687  ?_
          refine q_ialdN C (k := 69) (n := 18) ⟨by decide, by decide, by decide⟩ (by omega) (by decide) dL_law_688 ?_
          refine q_stk (st' := [.int (nI (gp (j - 1))), .int (nI g0), .int (nI ((3 * n) + 2)), .ref (σ.2.1 69)]) (congrArg (fun z => Value.int z :: [.int (nI g0), .int (nI ((3 * n) + 2)), .ref (σ.2.1 69)]) ((q_up_ne _ _ (by omega)).trans ((q_up_ne _ _ (by omega)).trans ((q_up_ne _ _ (by omega)).trans (hrel.2.2.2.1.2.2.2 (j - 1) (by omega)).1)))) ?_
          refine q_callSi C (As := [.int (nI g0), .int (nI (gp (j - 1)))]) (rest := [.int (nI ((3 * n) + 2)), .ref (σ.2.1 69)]) (kL_isImage l σ (q_up (q_up (q_up V 69 (3 * n) (nI g0)) 69 ((3 * n) + 1) (nI wh)) 69 ((3 * n) + 2) (nI o)) G (g := g0) hrel.2.2.1.2.1 (o := gp (j - 1)) (hrel.2.2.2.1.2.2.2 (j - 1) (by omega)).2.1.1) 2 gL_law_L_isImage rfl rfl rfl (by decide +kernel) ⟨Nat.le_of_ble_eq_true rfl, Nat.le_of_ble_eq_true rfl⟩ dL_law_689 rfl (Nat.le_of_ble_eq_true rfl) ⟨by show _ ≤ 658728; omega, by show _ ≤ 7125285; omega⟩ (fun r_689 V_4 G_5 hq_689 => ?_)
          obtain ⟨hs_689, rfl, rfl⟩ := hq_689
          refine q_if_eq C 700 dL_law_692 (by decide) (fun c_692 => ?_) (fun c_692 => ?_)
          · skip
            have b_689 := (q_is_eq hs_689).mp c_692
            refine q_aload_n C dL_law_700 rfl 3 rfl ?_
            refine q_iconst C (nI 3) dL_law_701 (by decide) ?_
            refine q_iload C dL_law_702 15 rfl ?_
            refine q_imulN C dL_law_704  ?_
            refine q_iconst C (nI 2) dL_law_705 (by decide) ?_
            refine q_iaddN C dL_law_706  ?_
            refine q_ialdN C (k := 69) (n := 18) ⟨by decide, by decide, by decide⟩ (by omega) (by decide) dL_law_707 ?_
            refine q_stk (st' := [.int (nI o), .int (nI ((3 * n) + 2)), .ref (σ.2.1 69)]) (congrArg (fun z => Value.int z :: [.int (nI ((3 * n) + 2)), .ref (σ.2.1 69)]) (q_up_self _ _ _ _)) ?_
            refine q_iastN C (k := 69) (n := 18) ⟨by decide, by decide, by decide⟩ (by omega) (by decide) dL_law_708 ?_
            refine q_VG (V' := q_up (q_up (q_up V 69 (3 * n) (nI g0)) 69 ((3 * n) + 1) (nI wh)) 69 ((3 * n) + 2) (nI o)) (G' := G) (by exact q_up_up _ _ _ _ _) rfl ?_
            refine q_iinc C ((nI (j - 1) - nI 1)) [(17, .int ((nI (j - 1) - nI 1))), (0, .ref b), (1, .ref (σ.2.1 0)), (2, .ref (σ.2.1 69)), (3, .ref (σ.2.1 70)), (4, .ref (σ.2.1 71)), (5, .ref (σ.2.1 72)), (6, .ref (σ.2.1 73)), (7, .ref (σ.2.1 74)), (8, .ref (σ.2.1 19)), (9, .ref (σ.2.1 18)), (10, .int (nI t)), (12, .int y), (14, .int (nI wh)), (15, .int (nI col)), (16, .int (nI n))] dL_law_709 0 rfl (q_dec (j - 1)) (by decide) rfl ?_
            refine q_goto C 667 dL_law_712 (by decide) ?_
            refine q_sub (lv' := [(17, .int ((nI (j - 1) - nI 1))), (0, .ref b), (1, .ref (σ.2.1 0)), (2, .ref (σ.2.1 69)), (3, .ref (σ.2.1 70)), (4, .ref (σ.2.1 71)), (5, .ref (σ.2.1 72)), (6, .ref (σ.2.1 73)), (7, .ref (σ.2.1 74)), (8, .ref (σ.2.1 19)), (9, .ref (σ.2.1 18)), (10, .int (nI t)), (12, .int y), (14, .int (nI wh)), (15, .int (nI col)), (16, .int (nI n))]) [0, 1, 2, 3, 4, 5, 6, 7, 8, 9, 10, 11, 12, 13, 14, 15] rfl ?_
            exact ihL_1 (j - 1) _ (by omega) (by first | exact z_or_y hj1 hj b_689 ho | exact z_or_n hj1 hj b_689 ho) (by omega)
          · skip
            have b_689 := (q_is_ne hs_689).mp c_692
            refine q_iload C dL_law_695 0 rfl ?_
            refine q_goto C 708 dL_law_697 (by decide) ?_
            refine q_iastN C (k := 69) (n := 18) ⟨by decide, by decide, by decide⟩ (by omega) (by decide) dL_law_708 ?_
            refine q_VG (V' := q_up (q_up (q_up V 69 (3 * n) (nI g0)) 69 ((3 * n) + 1) (nI wh)) 69 ((3 * n) + 2) (nI (j - 1))) (G' := G) (by exact q_up_up _ _ _ _ _) rfl ?_
            refine q_iinc C ((nI (j - 1) - nI 1)) [(17, .int ((nI (j - 1) - nI 1))), (0, .ref b), (1, .ref (σ.2.1 0)), (2, .ref (σ.2.1 69)), (3, .ref (σ.2.1 70)), (4, .ref (σ.2.1 71)), (5, .ref (σ.2.1 72)), (6, .ref (σ.2.1 73)), (7, .ref (σ.2.1 74)), (8, .ref (σ.2.1 19)), (9, .ref (σ.2.1 18)), (10, .int (nI t)), (12, .int y), (14, .int (nI wh)), (15, .int (nI col)), (16, .int (nI n))] dL_law_709 0 rfl (q_dec (j - 1)) (by decide) rfl ?_
            refine q_goto C 667 dL_law_712 (by decide) ?_
            refine q_sub (lv' := [(17, .int ((nI (j - 1) - nI 1))), (0, .ref b), (1, .ref (σ.2.1 0)), (2, .ref (σ.2.1 69)), (3, .ref (σ.2.1 70)), (4, .ref (σ.2.1 71)), (5, .ref (σ.2.1 72)), (6, .ref (σ.2.1 73)), (7, .ref (σ.2.1 74)), (8, .ref (σ.2.1 19)), (9, .ref (σ.2.1 18)), (10, .int (nI t)), (12, .int y), (14, .int (nI wh)), (15, .int (nI col)), (16, .int (nI n))]) [0, 1, 2, 3, 4, 5, 6, 7, 8, 9, 10, 11, 12, 13, 14, 15] rfl ?_
            exact ihL_1 (j - 1) _ (by omega) (by first | exact z_or_y hj1 hj b_689 ho | exact z_or_n hj1 hj b_689 ho) (by omega)
    refine q_sub (lv' := [(17, .int (nI n - nI 1)), (0, .ref b), (1, .ref (σ.2.1 0)), (2, .ref (σ.2.1 69)), (3, .ref (σ.2.1 70)), (4, .ref (σ.2.1 71)), (5, .ref (σ.2.1 72)), (6, .ref (σ.2.1 73)), (7, .ref (σ.2.1 74)), (8, .ref (σ.2.1 19)), (9, .ref (σ.2.1 18)), (10, .int (nI t)), (12, .int y), (14, .int (nI wh)), (15, .int (nI col)), (16, .int (nI n))]) [0, 6, 7, 8, 9, 10, 11, 12, 13, 14, 15, 5, 4, 3, 2, 1] rfl ?_
    exact L_1 _ n n (Nat.le_refl _) ⟨Or.inl rfl, fun k h1 h2 h3 => absurd h1 (by omega)⟩ (Nat.lt_succ_self _)
  · skip
    refine q_goto C 1620 dL_law_622 (by decide) ?_
    refine q_sub (lv' := [(10, .int (nI t)), (0, .ref b), (1, .ref (σ.2.1 0)), (2, .ref (σ.2.1 69)), (3, .ref (σ.2.1 70)), (4, .ref (σ.2.1 71)), (5, .ref (σ.2.1 72)), (6, .ref (σ.2.1 73)), (7, .ref (σ.2.1 74)), (8, .ref (σ.2.1 19)), (9, .ref (σ.2.1 18))]) [3, 4, 5, 6, 7, 8, 9, 10, 11, 12, 13] rfl ?_
    exact kk _ _ _ _ _ _ _ _ _ (zRel_mono hrel (by omega)) (by omega) (by omega)
set_option maxHeartbeats 1000000 in
set_option maxRecDepth 100000 in
/-- a sign is told -/
theorem w_sign {σ : q_E} {p : Program} {e : Env} {s : State} {m : MethodId} {below : List Frame} {meth : Method} {c : Code} {Q : State → Prop} {b : Nat} (l : Launch) (hlf : l.stackTraces = false) (C : q_C σ p s m #[Value.ref b] c cL_law 21 RL wsL_law) {cells slots : Nat} (hce : cells + 960 ≤ 658728) (hse : slots + 5760 ≤ 7125285) {V : q_V} {G : q_G} {t n ns g0 : Nat} {gp gs : Nat → Nat} (hrel : zRel V G (30 * t) n ns g0 gp gs) (ht : t < 50) {wh col : Nat} (hwh : wh < 5) (hcol : col < 8) (y : Int32) (kk : z_K σ p l e s m b below meth c Q cells slots t) : q_W σ p l e room_1 s m #[Value.ref b] below meth c Q 21 cells slots V G [(15, .int (nI col)), (14, .int (nI wh)), (12, .int y), (10, .int (nI t)), (0, .ref b), (1, .ref (σ.2.1 0)), (2, .ref (σ.2.1 69)), (3, .ref (σ.2.1 70)), (4, .ref (σ.2.1 71)), (5, .ref (σ.2.1 72)), (6, .ref (σ.2.1 73)), (7, .ref (σ.2.1 74)), (8, .ref (σ.2.1 19)), (9, .ref (σ.2.1 18))] 746 [] := by
  have hns4 := hrel.2.2.2.2.2.1.2.2.1
  refine q_aload C dL_law_746 13 rfl ?_
  refine q_iconst C (nI 2) dL_law_748 (by decide) ?_
  refine q_ialdN C (k := 18) (n := 3) ⟨by decide, by decide, by decide⟩ (by omega) (by decide) dL_law_749 ?_
  refine q_stk (st' := [.int (nI ns)]) (congrArg (fun z => Value.int z :: []) (hrel.2.2.2.2.2.1.2.1)) ?_
  refine q_iconst C (nI 4) dL_law_750 (by decide) ?_
  refine q_icmp_neN C 757 dL_law_751 (by decide) (by omega) (by omega) (fun c_751 => ?_) (fun c_751 => ?_)
  · skip
    refine q_aload_n C dL_law_757 rfl 7 rfl ?_
    refine q_iconst C (nI 2) dL_law_758 (by decide) ?_
    refine q_aload C dL_law_759 13 rfl ?_
    refine q_iconst C (nI 2) dL_law_761 (by decide) ?_
    refine q_ialdN C (k := 18) (n := 3) ⟨by decide, by decide, by decide⟩ (by omega) (by decide) dL_law_762 ?_
    refine q_stk (st' := [.int (nI ns), .int (nI 2), .ref (σ.2.1 70)]) (congrArg (fun z => Value.int z :: [.int (nI 2), .ref (σ.2.1 70)]) (hrel.2.2.2.2.2.1.2.1)) ?_
    refine q_imulN C dL_law_763  ?_
    refine q_aload C dL_law_764 13 rfl ?_
    refine q_iconst C (nI 0) dL_law_766 (by decide) ?_
    refine q_ialdN C (k := 18) (n := 3) ⟨by decide, by decide, by decide⟩ (by omega) (by decide) dL_law_767 ?_
    refine q_stk (st' := [.int (nI g0), .int (nI (2 * ns)), .ref (σ.2.1 70)]) (congrArg (fun z => Value.int z :: [.int (nI (2 * ns)), .ref (σ.2.1 70)]) (hrel.2.2.1.1)) ?_
    refine q_iastN C (k := 70) (n := 8) ⟨by decide, by decide, by decide⟩ (by omega) (by decide) dL_law_768 ?_
    refine q_aload_n C dL_law_769 rfl 7 rfl ?_
    refine q_iconst C (nI 2) dL_law_770 (by decide) ?_
    refine q_aload C dL_law_771 13 rfl ?_
    refine q_iconst C (nI 2) dL_law_773 (by decide) ?_
    refine q_ialdN C (k := 18) (n := 3) ⟨by decide, by decide, by decide⟩ (by omega) (by decide) dL_law_774 ?_
    refine q_stk (st' := [.int (V 18 2), .int (nI 2), .ref (σ.2.1 70)]) (congrArg (fun z => Value.int z :: [.int (nI 2), .ref (σ.2.1 70)]) (q_up_ne _ _ (by omega))) ?_
    refine q_stk (st' := [.int (nI ns), .int (nI 2), .ref (σ.2.1 70)]) (congrArg (fun z => Value.int z :: [.int (nI 2), .ref (σ.2.1 70)]) (hrel.2.2.2.2.2.1.2.1)) ?_
    refine q_imulN C dL_law_775  ?_
    refine q_iconst C (nI 1) dL_law_776 (by decide) ?_
    refine q_iaddN C dL_law_777  ?_
    refine q_iconst C (nI 1) dL_law_778 (by decide) ?_
    refine q_iload C dL_law_779 2 rfl ?_
    refine q_bipush C (nI 100) dL_law_781 (by decide) ?_
    refine q_callSi C (As := [.int y, .int (nI 100)]) (rest := [.int (nI 1), .int (nI ((2 * ns) + 1)), .ref (σ.2.1 70)]) (kL_low l σ (q_up V 70 (2 * ns) (nI g0)) G y (n := 100) (by omega) (by omega)) 2 gL_law_L_low rfl rfl rfl (by decide +kernel) ⟨Nat.le_of_ble_eq_true rfl, Nat.le_of_ble_eq_true rfl⟩ dL_law_783 rfl (Nat.le_of_ble_eq_true rfl) ⟨by show _ ≤ 658728; omega, by show _ ≤ 7125285; omega⟩ (fun r_783 V_1 G_2 hq_783 => ?_)
    obtain ⟨⟨lo_783, hlo_783, rfl⟩, rfl, rfl⟩ := hq_783
    refine q_iaddN C dL_law_786  ?_
    refine q_iastN C (k := 70) (n := 8) ⟨by decide, by decide, by decide⟩ (by omega) (by decide) dL_law_787 ?_
    refine q_aload C dL_law_788 13 rfl ?_
    refine q_iconst C (nI 2) dL_law_790 (by decide) ?_
    refine q_dup2 C dL_law_791 rfl rfl ?_
    refine q_ialdN C (k := 18) (n := 3) ⟨by decide, by decide, by decide⟩ (by omega) (by decide) dL_law_792 ?_
    refine q_stk (st' := [.int (V 18 2), .int (nI 2), .ref (σ.2.1 18)]) (congrArg (fun z => Value.int z :: [.int (nI 2), .ref (σ.2.1 18)]) ((q_up_ne _ _ (by omega)).trans (q_up_ne _ _ (by omega)))) ?_
    refine q_stk (st' := [.int (nI ns), .int (nI 2), .ref (σ.2.1 18)]) (congrArg (fun z => Value.int z :: [.int (nI 2), .ref (σ.2.1 18)]) (hrel.2.2.2.2.2.1.2.1)) ?_
    refine q_iconst C (nI 1) dL_law_793 (by decide) ?_
    refine q_iaddN C dL_law_794  ?_
    refine q_iastN C (k := 18) (n := 3) ⟨by decide, by decide, by decide⟩ (by omega) (by decide) dL_law_795 ?_
    refine q_aload_n C dL_law_796 rfl 5 rfl ?_
    refine q_aload_n C dL_law_797 rfl 7 rfl ?_
    refine q_iconst C (nI 2) dL_law_798 (by decide) ?_
    refine q_aload C dL_law_799 13 rfl ?_
    refine q_iconst C (nI 2) dL_law_801 (by decide) ?_
    refine q_ialdN C (k := 18) (n := 3) ⟨by decide, by decide, by decide⟩ (by omega) (by decide) dL_law_802 ?_
    refine q_stk (st' := [.int (nI (ns + 1)), .int (nI 2), .ref (σ.2.1 70), .ref (σ.2.1 0)]) (congrArg (fun z => Value.int z :: [.int (nI 2), .ref (σ.2.1 70), .ref (σ.2.1 0)]) (q_up_self _ _ _ _)) ?_
    refine q_imulN C dL_law_803  ?_
    refine q_iconst C (nI 1) dL_law_804 (by decide) ?_
    refine q_isubN C dL_law_805 (by omega) ?_
    refine q_ialdN C (k := 70) (n := 8) ⟨by decide, by decide, by decide⟩ (by omega) (by decide) dL_law_806 ?_
    refine q_stk (st' := [.int ((q_up (q_up V 70 (2 * ns) (nI g0)) 70 ((2 * ns) + 1) (nI (1 + lo_783))) 70 ((2 * (ns + 1)) - 1)), .ref (σ.2.1 0)]) (congrArg (fun z => Value.int z :: [.ref (σ.2.1 0)]) (q_up_ne _ _ (by omega))) ?_
    refine q_stk (st' := [.int (nI (1 + lo_783)), .ref (σ.2.1 0)]) (congrArg (fun z => Value.int z :: [.ref (σ.2.1 0)]) (by rw [show 2 * (ns + 1) - 1 = 2 * ns + 1 by omega]; exact q_up_self _ _ _ _)) ?_
    refine q_callVi C (As := [.int (nI (1 + lo_783))]) (rest := []) (k := 0) (by omega) q_enBP rfl rfl (zM_sign l σ (q_up (q_up (q_up V 70 (2 * ns) (nI g0)) 70 ((2 * ns) + 1) (nI (1 + lo_783))) 18 2 (nI (ns + 1))) G hlf (ns := ns) (wt := 1 + lo_783) (w := gwd g0) (h := ghi g0) ⟨((q_up_ne _ _ (by omega)).trans ((q_up_ne _ _ (by omega)).trans (q_up_ne _ _ (by omega)))).trans hrel.2.2.1.2.2.1.1, ((q_up_ne _ _ (by omega)).trans ((q_up_ne _ _ (by omega)).trans (q_up_ne _ _ (by omega)))).trans hrel.2.2.1.2.2.1.2.1, hrel.2.2.1.2.2.1.2.2⟩ hrel.2.2.1.2.1.2.2.1 hrel.2.2.1.2.1.2.2.2.2.1 (((q_up_ne _ _ (by omega)).trans ((q_up_ne _ _ (by omega)).trans (q_up_ne _ _ (by omega)))).trans hrel.2.2.2.2.2.1.1) (by omega) (by omega) (by omega)) 1 gL_law_X2_sign rfl rfl rfl (by decide +kernel) ⟨Nat.le_of_ble_eq_true rfl, Nat.le_of_ble_eq_true rfl⟩ dL_law_807 rfl (Nat.le_of_ble_eq_true rfl) ⟨by show _ ≤ 658728; omega, by show _ ≤ 7125285; omega⟩ (fun r_807 V_3 G_4 hq_807 => ?_)
    obtain ⟨rfl, rfl, rfl⟩ := hq_807
    refine q_aload C dL_law_810 13 rfl ?_
    refine q_iconst C (nI 2) dL_law_812 (by decide) ?_
    refine q_ialdN C (k := 18) (n := 3) ⟨by decide, by decide, by decide⟩ (by omega) (by decide) dL_law_813 ?_
    refine q_stk (st' := [.int (nI (ns + 1)), .int (nI ns)]) (congrArg (fun z => Value.int z :: [.int (nI ns)]) ((q_up_ne _ _ (by omega)).trans ((q_up_ne _ _ (by omega)).trans ((if_neg (by omega)).trans ((q_up_ne _ _ (by omega)).trans ((q_up_ne _ _ (by omega)).trans (q_up_self _ _ _ _))))))) ?_
    refine q_iconst C (nI 1) dL_law_814 (by decide) ?_
    refine q_isubN C dL_law_815 (by omega) ?_
    refine q_icmp_eqN C 1572 dL_law_816 (by decide) (by omega) (by omega) (fun c_816 => ?_) (fun c_816 => absurd c_816 (by omega))
    refine q_sub (lv' := [(15, .int (nI col)), (10, .int (nI t)), (0, .ref b), (1, .ref (σ.2.1 0)), (2, .ref (σ.2.1 69)), (3, .ref (σ.2.1 70)), (4, .ref (σ.2.1 71)), (5, .ref (σ.2.1 72)), (6, .ref (σ.2.1 73)), (7, .ref (σ.2.1 74)), (8, .ref (σ.2.1 19)), (9, .ref (σ.2.1 18))]) [0, 3, 4, 5, 6, 7, 8, 9, 10, 11, 12, 13] rfl ?_
    exact w_tail l hlf C hce hse (z_sign hrel (by omega) (by omega)) (by omega) ht hcol (by omega) (by omega) kk
  · skip
    refine q_goto C 1620 dL_law_754 (by decide) ?_
    refine q_sub (lv' := [(10, .int (nI t)), (0, .ref b), (1, .ref (σ.2.1 0)), (2, .ref (σ.2.1 69)), (3, .ref (σ.2.1 70)), (4, .ref (σ.2.1 71)), (5, .ref (σ.2.1 72)), (6, .ref (σ.2.1 73)), (7, .ref (σ.2.1 74)), (8, .ref (σ.2.1 19)), (9, .ref (σ.2.1 18))]) [3, 4, 5, 6, 7, 8, 9, 10, 11, 12, 13] rfl ?_
    exact kk _ _ _ _ _ _ _ _ _ (zRel_mono hrel (by omega)) (by omega) (by omega)
