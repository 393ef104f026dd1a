theorem z_was {V : q_V} (h9 : zR9 V) {p : Nat} (hp : p < 7) : (¬ V 73 (2 * p) < 0) ↔ ¬ V 13 p = -1 := by
  obtain ⟨e1, e2⟩ := h9 p hp
  rw [e1]
  rcases e2 with e | ⟨-, -, ⟨j, hj, e⟩, -⟩
  · rw [e]
    exact ⟨fun h => absurd (by decide) h, fun h => absurd rfl h⟩
  · rw [e]
    exact ⟨fun _ => q_nI_ne1 (by omega), fun _ => nI_pos (by omega)⟩
set_option maxHeartbeats 1000000 in
set_option maxRecDepth 100000 in
/-- a wish, or its end -/
theorem w_wish {σ : q_E} {p : Program} {e : Env} {s : State} {m : MethodId} {below : List Frame} {meth : Method} {c : Code} {Q : State → Prop} {b : Nat} (l : Launch) (hlf : l.stackTraces = false) (C : q_C σ p s m #[Value.ref b] c cL_law 21 RL wsL_law) {cells slots : Nat} (hce : cells + 960 ≤ 658728) (hse : slots + 5760 ≤ 7125285) {V : q_V} {G : q_G} {t n ns g0 : Nat} {gp gs : Nat → Nat} (hrel : zRel V G (30 * t) n ns g0 gp gs) (ht : t < 50) {wh col : Nat} (hwh : wh < 5) (hcol : col < 8) (y : Int32) (kk : z_K σ p l e s m b below meth c Q cells slots t) : q_W σ p l e room_1 s m #[Value.ref b] below meth c Q 21 cells slots V G [(15, .int (nI col)), (14, .int (nI wh)), (12, .int y), (10, .int (nI t)), (0, .ref b), (1, .ref (σ.2.1 0)), (2, .ref (σ.2.1 69)), (3, .ref (σ.2.1 70)), (4, .ref (σ.2.1 71)), (5, .ref (σ.2.1 72)), (6, .ref (σ.2.1 73)), (7, .ref (σ.2.1 74)), (8, .ref (σ.2.1 19)), (9, .ref (σ.2.1 18))] 1320 [] := by
  refine q_iload C dL_law_1320 0 rfl ?_
  refine q_iconst C (nI 1) dL_law_1322 (by decide) ?_
  refine q_iaddN C dL_law_1323  ?_
  refine q_iload C dL_law_1324 2 rfl ?_
  refine q_iconst C (nI 2) dL_law_1326 (by decide) ?_
  refine q_callSi C (As := [.int y, .int (nI 2)]) (rest := [.int (nI (col + 1))]) (kL_low l σ V G y (n := 2) (by omega) (by omega)) 2 gL_law_L_low rfl rfl rfl (by decide +kernel) ⟨Nat.le_of_ble_eq_true rfl, Nat.le_of_ble_eq_true rfl⟩ dL_law_1327 rfl (Nat.le_of_ble_eq_true rfl) ⟨by show _ ≤ 658728; omega, by show _ ≤ 7125285; omega⟩ (fun r_1327 V_1 G_2 hq_1327 => ?_)
  obtain ⟨⟨lo_1327, hlo_1327, rfl⟩, rfl, rfl⟩ := hq_1327
  refine q_iaddN C dL_law_1330  ?_
  refine q_bipush C (nI 8) dL_law_1331 (by decide) ?_
  refine q_iremN C dL_law_1333 (by omega) (by omega) (by omega) ?_
  refine q_istore C [(16, .int (nI (((col + 1) + lo_1327) % 8))), (15, .int (nI col)), (14, .int (nI wh)), (12, .int y), (10, .int (nI t)), (0, .ref b), (1, .ref (σ.2.1 0)), (2, .ref (σ.2.1 69)), (3, .ref (σ.2.1 70)), (4, .ref (σ.2.1 71)), (5, .ref (σ.2.1 72)), (6, .ref (σ.2.1 73)), (7, .ref (σ.2.1 74)), (8, .ref (σ.2.1 19)), (9, .ref (σ.2.1 18))] dL_law_1334 (by decide) rfl ?_
  refine q_iload C dL_law_1336 3 rfl ?_
  refine q_iconst C (nI 2) dL_law_1338 (by decide) ?_
  refine q_ishr C dL_law_1339 ?_
  refine q_bipush C (nI 6) dL_law_1340 (by decide) ?_
  refine q_callSi C (As := [.int (y >>> (nI 2 &&& 31)), .int (nI 6)]) (rest := []) (kL_low l σ V G ((y >>> (nI 2 &&& 31))) (n := 6) (by omega) (by omega)) 2 gL_law_L_low rfl rfl rfl (by decide +kernel) ⟨Nat.le_of_ble_eq_true rfl, Nat.le_of_ble_eq_true rfl⟩ dL_law_1342 rfl (Nat.le_of_ble_eq_true rfl) ⟨by show _ ≤ 658728; omega, by show _ ≤ 7125285; omega⟩ (fun r_1342 V_3 G_4 hq_1342 => ?_)
  obtain ⟨⟨lo_1342, hlo_1342, rfl⟩, rfl, rfl⟩ := hq_1342
  refine q_if_neN C 1389 dL_law_1345 (by decide) (by omega) (fun c_1345 => ?_) (fun c_1345 => ?_)
  · skip
    have J_5 : ∀ (Q9 : Prop) (hQ9 : Q9 ↔ ¬ V 13 wh = -1), q_W σ p l e room_1 s m #[Value.ref b] below meth c Q 21 cells slots V G [(0, .ref b), (1, .ref (σ.2.1 0)), (2, .ref (σ.2.1 69)), (3, .ref (σ.2.1 70)), (4, .ref (σ.2.1 71)), (5, .ref (σ.2.1 72)), (6, .ref (σ.2.1 73)), (7, .ref (σ.2.1 74)), (8, .ref (σ.2.1 19)), (9, .ref (σ.2.1 18)), (10, .int (nI t)), (12, .int y), (14, .int (nI wh)), (15, .int (nI col)), (16, .int (nI (((col + 1) + lo_1327) % 8)))] 1404 [.int (q_w01 Q9)] := by
      intro Q9 hQ9
      refine q_istore C [(17, .int (q_w01 Q9)), (0, .ref b), (1, .ref (σ.2.1 0)), (2, .ref (σ.2.1 69)), (3, .ref (σ.2.1 70)), (4, .ref (σ.2.1 71)), (5, .ref (σ.2.1 72)), (6, .ref (σ.2.1 73)), (7, .ref (σ.2.1 74)), (8, .ref (σ.2.1 19)), (9, .ref (σ.2.1 18)), (10, .int (nI t)), (12, .int y), (14, .int (nI wh)), (15, .int (nI col)), (16, .int (nI (((col + 1) + lo_1327) % 8)))] dL_law_1404 (by decide) rfl ?_
      refine q_aload C dL_law_1406 7 rfl ?_
      refine q_iconst C (nI 2) dL_law_1408 (by decide) ?_
      refine q_iload C dL_law_1409 13 rfl ?_
      refine q_imulN C dL_law_1411  ?_
      refine q_iload C dL_law_1412 14 rfl ?_
      refine q_iastN C (k := 73) (n := 14) ⟨by decide, by decide, by decide⟩ (by omega) (by decide) dL_law_1414 ?_
      refine q_aload C dL_law_1415 7 rfl ?_
      refine q_iconst C (nI 2) dL_law_1417 (by decide) ?_
      refine q_iload C dL_law_1418 13 rfl ?_
      refine q_imulN C dL_law_1420  ?_
      refine q_iconst C (nI 1) dL_law_1421 (by decide) ?_
      refine q_iaddN C dL_law_1422  ?_
      have J_6 : ∀ (zz : Nat) (hzz : zz < 8) (hzc : col ≠ zz), q_W σ p l e room_1 s m #[Value.ref b] below meth c Q 21 cells slots (q_up V 73 (2 * wh) (nI col)) G [(0, .ref b), (1, .ref (σ.2.1 0)), (2, .ref (σ.2.1 69)), (3, .ref (σ.2.1 70)), (4, .ref (σ.2.1 71)), (5, .ref (σ.2.1 72)), (6, .ref (σ.2.1 73)), (7, .ref (σ.2.1 74)), (8, .ref (σ.2.1 19)), (9, .ref (σ.2.1 18)), (10, .int (nI t)), (12, .int y), (14, .int (nI wh)), (15, .int (nI col)), (16, .int (nI (((col + 1) + lo_1327) % 8))), (17, .int (q_w01 Q9))] 1449 [.int (nI zz), .int (nI ((2 * wh) + 1)), .ref (σ.2.1 73)] := by
        intro zz hzz hzc
        refine q_iastN C (k := 73) (n := 14) ⟨by decide, by decide, by decide⟩ (by omega) (by decide) dL_law_1449 ?_
        refine q_aload_n C dL_law_1450 rfl 1 rfl ?_
        refine q_iload C dL_law_1451 12 rfl ?_
        refine q_iload C dL_law_1453 13 rfl ?_
        refine q_aload C dL_law_1455 6 rfl ?_
        refine q_iconst C (nI 2) dL_law_1457 (by decide) ?_
        refine q_iload C dL_law_1458 12 rfl ?_
        refine q_imulN C dL_law_1460  ?_
        refine q_iconst C (nI 1) dL_law_1461 (by decide) ?_
        refine q_iaddN C dL_law_1462  ?_
        refine q_ialdN C (k := 73) (n := 14) ⟨by decide, by decide, by decide⟩ (by omega) (by decide) dL_law_1463 ?_
        refine q_stk (st' := [.int (nI zz), .int (nI col), .int (nI wh), .ref (σ.2.1 0)]) (congrArg (fun z => Value.int z :: [.int (nI col), .int (nI wh), .ref (σ.2.1 0)]) (q_up_self _ _ _ _)) ?_
        refine q_callVi C (As := [.int (nI wh), .int (nI col), .int (nI zz)]) (rest := []) (k := 0) (by omega) q_enBP rfl rfl (zM_wish l σ (q_up (q_up V 73 (2 * wh) (nI col)) 73 ((2 * wh) + 1) (nI zz)) G hlf (wh := wh) (y := col) (z := zz) (v := V 13 wh) hwh hcol hzz hzc ((q_up_ne _ _ (by omega)).trans (q_up_ne _ _ (by omega)))) 3 gL_law_X2_wish rfl rfl rfl (by decide +kernel) ⟨Nat.le_of_ble_eq_true rfl, Nat.le_of_ble_eq_true rfl⟩ dL_law_1464 rfl (Nat.le_of_ble_eq_true rfl) ⟨by show _ ≤ 658728; omega, by show _ ≤ 7125285; omega⟩ (fun r_1464 V_7 G_8 hq_1464 => ?_)
        obtain ⟨rfl, rfl, rfl⟩ := hq_1464
        refine q_iload C dL_law_1467 15 rfl ?_
        refine q_icmp_eq C 1474 dL_law_1469 (by decide) (fun c_1469 => ?_) (fun c_1469 => absurd c_1469 (by exact fun z => z (congrArg q_w01 (propext hQ9.symm))))
        refine q_goto C 1572 dL_law_1474 (by decide) ?_
        refine q_sub (lv' := [(15, .int (nI col)), (10, .int (nI t)), (0, .ref b), (1, .ref (σ.2.1 0)), (2, .ref (σ.2.1 69)), (3, .ref (σ.2.1 70)), (4, .ref (σ.2.1 71)), (5, .ref (σ.2.1 72)), (6, .ref (σ.2.1 73)), (7, .ref (σ.2.1 74)), (8, .ref (σ.2.1 19)), (9, .ref (σ.2.1 18))]) [13, 10, 0, 1, 2, 3, 4, 5, 6, 7, 8, 9] rfl ?_
        exact w_tail l hlf C hce hse (z_wish hrel hwh hcol hzz) (by omega) ht hcol (by omega) (by omega) kk
      refine q_iload C dL_law_1423 12 rfl ?_
      refine q_iconst C (nI 5) dL_law_1425 (by decide) ?_
      refine q_ishr C dL_law_1426 ?_
      refine q_iconst C (nI 3) dL_law_1427 (by decide) ?_
      refine q_callSi C (As := [.int (y >>> (nI 5 &&& 31)), .int (nI 3)]) (rest := [.int (nI ((2 * wh) + 1)), .ref (σ.2.1 73)]) (kL_low l σ (q_up V 73 (2 * wh) (nI col)) G ((y >>> (nI 5 &&& 31))) (n := 3) (by omega) (by omega)) 2 gL_law_L_low rfl rfl rfl (by decide +kernel) ⟨Nat.le_of_ble_eq_true rfl, Nat.le_of_ble_eq_true rfl⟩ dL_law_1428 rfl (Nat.le_of_ble_eq_true rfl) ⟨by show _ ≤ 658728; omega, by show _ ≤ 7125285; omega⟩ (fun r_1428 V_9 G_10 hq_1428 => ?_)
      obtain ⟨⟨lo_1428, hlo_1428, rfl⟩, rfl, rfl⟩ := hq_1428
      refine q_if_neN C 1439 dL_law_1431 (by decide) (by omega) (fun c_1431 => ?_) (fun c_1431 => ?_)
      · skip
        refine q_iload C dL_law_1439 14 rfl ?_
        refine q_if_neN C 1448 dL_law_1441 (by decide) (by omega) (fun c_1441 => ?_) (fun c_1441 => ?_)
        · skip
          refine q_iconst C (nI 0) dL_law_1448 (by decide) ?_
          refine q_sub (lv' := [(0, .ref b), (1, .ref (σ.2.1 0)), (2, .ref (σ.2.1 69)), (3, .ref (σ.2.1 70)), (4, .ref (σ.2.1 71)), (5, .ref (σ.2.1 72)), (6, .ref (σ.2.1 73)), (7, .ref (σ.2.1 74)), (8, .ref (σ.2.1 19)), (9, .ref (σ.2.1 18)), (10, .int (nI t)), (12, .int y), (14, .int (nI wh)), (15, .int (nI col)), (16, .int (nI (((col + 1) + lo_1327) % 8))), (17, .int (q_w01 Q9))]) [1, 2, 3, 4, 5, 6, 7, 8, 9, 10, 11, 12, 13, 14, 15, 0] rfl ?_
          exact J_6 _ (by omega) (by omega)
        · skip
          refine q_iconst C (nI 1) dL_law_1444 (by decide) ?_
          refine q_goto C 1449 dL_law_1445 (by decide) ?_
          refine q_sub (lv' := [(0, .ref b), (1, .ref (σ.2.1 0)), (2, .ref (σ.2.1 69)), (3, .ref (σ.2.1 70)), (4, .ref (σ.2.1 71)), (5, .ref (σ.2.1 72)), (6, .ref (σ.2.1 73)), (7, .ref (σ.2.1 74)), (8, .ref (σ.2.1 19)), (9, .ref (σ.2.1 18)), (10, .int (nI t)), (12, .int y), (14, .int (nI wh)), (15, .int (nI col)), (16, .int (nI (((col + 1) + lo_1327) % 8))), (17, .int (q_w01 Q9))]) [1, 2, 3, 4, 5, 6, 7, 8, 9, 10, 11, 12, 13, 14, 15, 0] rfl ?_
          exact J_6 _ (by omega) (by omega)
      · skip
        refine q_iload C dL_law_1434 15 rfl ?_
        refine q_goto C 1449 dL_law_1436 (by decide) ?_
        refine q_sub (lv' := [(0, .ref b), (1, .ref (σ.2.1 0)), (2, .ref (σ.2.1 69)), (3, .ref (σ.2.1 70)), (4, .ref (σ.2.1 71)), (5, .ref (σ.2.1 72)), (6, .ref (σ.2.1 73)), (7, .ref (σ.2.1 74)), (8, .ref (σ.2.1 19)), (9, .ref (σ.2.1 18)), (10, .int (nI t)), (12, .int y), (14, .int (nI wh)), (15, .int (nI col)), (16, .int (nI (((col + 1) + lo_1327) % 8))), (17, .int (q_w01 Q9))]) [1, 2, 3, 4, 5, 6, 7, 8, 9, 10, 11, 12, 13, 14, 15, 0] rfl ?_
        exact J_6 _ (by omega) (by omega)
    refine q_aload C dL_law_1389 11 rfl ?_
    refine q_iconst C (nI 2) dL_law_1391 (by decide) ?_
    refine q_iload C dL_law_1392 2 rfl ?_
    refine q_imulN C dL_law_1394  ?_
    refine q_ialdN C (k := 73) (n := 14) ⟨by decide, by decide, by decide⟩ (by omega) (by decide) dL_law_1395 ?_
    refine q_if_lt C 1403 dL_law_1396 (by decide) (fun c_1396 => ?_) (fun c_1396 => ?_)
    · skip
      refine q_iconst C (nI 0) dL_law_1403 (by decide) ?_
      refine q_sub (lv' := [(0, .ref b), (1, .ref (σ.2.1 0)), (2, .ref (σ.2.1 69)), (3, .ref (σ.2.1 70)), (4, .ref (σ.2.1 71)), (5, .ref (σ.2.1 72)), (6, .ref (σ.2.1 73)), (7, .ref (σ.2.1 74)), (8, .ref (σ.2.1 19)), (9, .ref (σ.2.1 18)), (10, .int (nI t)), (12, .int y), (14, .int (nI wh)), (15, .int (nI col)), (16, .int (nI (((col + 1) + lo_1327) % 8)))]) [5, 6, 7, 8, 9, 10, 11, 12, 13, 14, 4, 3, 2, 1, 0] rfl ?_
      refine q_stk (st' := [.int (q_w01 False)]) (by rw [q_w01_n (fun z : False => z)] <;> rfl) ?_
      exact J_5 _ ⟨fun z => z.elim, fun z => (z_was hrel.2.2.2.2.2.2.2.2.1 (by omega)).mpr z c_1396⟩
    · skip
      refine q_iconst C (nI 1) dL_law_1399 (by decide) ?_
      refine q_goto C 1404 dL_law_1400 (by decide) ?_
      refine q_sub (lv' := [(0, .ref b), (1, .ref (σ.2.1 0)), (2, .ref (σ.2.1 69)), (3, .ref (σ.2.1 70)), (4, .ref (σ.2.1 71)), (5, .ref (σ.2.1 72)), (6, .ref (σ.2.1 73)), (7, .ref (σ.2.1 74)), (8, .ref (σ.2.1 19)), (9, .ref (σ.2.1 18)), (10, .int (nI t)), (12, .int y), (14, .int (nI wh)), (15, .int (nI col)), (16, .int (nI (((col + 1) + lo_1327) % 8)))]) [5, 6, 7, 8, 9, 10, 11, 12, 13, 14, 4, 3, 2, 1, 0] rfl ?_
      refine q_stk (st' := [.int (q_w01 True)]) (by rw [q_w01_y trivial] <;> rfl) ?_
      exact J_5 _ ⟨fun _ => (z_was hrel.2.2.2.2.2.2.2.2.1 (by omega)).mp c_1396, fun _ => trivial⟩
  · skip
    have J_11 : ∀ (Q9 : Prop) (hQ9 : Q9 ↔ ¬ V 13 wh = -1), q_W σ p l e room_1 s m #[Value.ref b] below meth c Q 21 cells slots V G [(0, .ref b), (1, .ref (σ.2.1 0)), (2, .ref (σ.2.1 69)), (3, .ref (σ.2.1 70)), (4, .ref (σ.2.1 71)), (5, .ref (σ.2.1 72)), (6, .ref (σ.2.1 73)), (7, .ref (σ.2.1 74)), (8, .ref (σ.2.1 19)), (9, .ref (σ.2.1 18)), (10, .int (nI t)), (12, .int y), (14, .int (nI wh)), (15, .int (nI col)), (16, .int (nI (((col + 1) + lo_1327) % 8)))] 1363 [.int (q_w01 Q9)] := by
      intro Q9 hQ9
      refine q_istore C [(17, .int (q_w01 Q9)), (0, .ref b), (1, .ref (σ.2.1 0)), (2, .ref (σ.2.1 69)), (3, .ref (σ.2.1 70)), (4, .ref (σ.2.1 71)), (5, .ref (σ.2.1 72)), (6, .ref (σ.2.1 73)), (7, .ref (σ.2.1 74)), (8, .ref (σ.2.1 19)), (9, .ref (σ.2.1 18)), (10, .int (nI t)), (12, .int y), (14, .int (nI wh)), (15, .int (nI col)), (16, .int (nI (((col + 1) + lo_1327) % 8)))] dL_law_1363 (by decide) rfl ?_
      refine q_aload C dL_law_1365 7 rfl ?_
      refine q_iconst C (nI 2) dL_law_1367 (by decide) ?_
      refine q_iload C dL_law_1368 13 rfl ?_
      refine q_imulN C dL_law_1370  ?_
      refine q_iconst C ((-1)) dL_law_1371 (by decide) ?_
      refine q_iastN C (k := 73) (n := 14) ⟨by decide, by decide, by decide⟩ (by omega) (by decide) dL_law_1372 ?_
      refine q_aload_n C dL_law_1373 rfl 2 rfl ?_
      refine q_iload C dL_law_1374 13 rfl ?_
      refine q_callVi C (As := [.int (nI wh)]) (rest := []) (k := 0) (by omega) q_enBP rfl rfl (zM_unwish l σ (q_up V 73 (2 * wh) (((-1)))) G hlf (wh := wh) (v := V 13 wh) hwh (q_up_ne _ _ (by omega))) 1 gL_law_X2_unwish rfl rfl rfl (by decide +kernel) ⟨Nat.le_of_ble_eq_true rfl, Nat.le_of_ble_eq_true rfl⟩ dL_law_1376 rfl (Nat.le_of_ble_eq_true rfl) ⟨by show _ ≤ 658728; omega, by show _ ≤ 7125285; omega⟩ (fun r_1376 V_12 G_13 hq_1376 => ?_)
      obtain ⟨rfl, rfl, rfl⟩ := hq_1376
      refine q_iload C dL_law_1379 0 rfl ?_
      refine q_icmp_eq C 1386 dL_law_1381 (by decide) (fun c_1381 => ?_) (fun c_1381 => absurd c_1381 (by exact fun z => z (congrArg q_w01 (propext hQ9.symm))))
      refine q_goto C 1474 dL_law_1386 (by decide) ?_
      refine q_goto C 1572 dL_law_1474 (by decide) ?_
      refine q_sub (lv' := [(15, .int (nI col)), (10, .int (nI t)), (0, .ref b), (1, .ref (σ.2.1 0)), (2, .ref (σ.2.1 69)), (3, .ref (σ.2.1 70)), (4, .ref (σ.2.1 71)), (5, .ref (σ.2.1 72)), (6, .ref (σ.2.1 73)), (7, .ref (σ.2.1 74)), (8, .ref (σ.2.1 19)), (9, .ref (σ.2.1 18))]) [14, 11, 1, 2, 3, 4, 5, 6, 7, 8, 9, 10] rfl ?_
      exact w_tail l hlf C hce hse (z_unwish hrel hwh) (by omega) ht hcol (by omega) (by omega) kk
    refine q_aload C dL_law_1348 11 rfl ?_
    refine q_iconst C (nI 2) dL_law_1350 (by decide) ?_
    refine q_iload C dL_law_1351 2 rfl ?_
    refine q_imulN C dL_law_1353  ?_
    refine q_ialdN C (k := 73) (n := 14) ⟨by decide, by decide, by decide⟩ (by omega) (by decide) dL_law_1354 ?_
    refine q_if_lt C 1362 dL_law_1355 (by decide) (fun c_1355 => ?_) (fun c_1355 => ?_)
    · skip
      refine q_iconst C (nI 0) dL_law_1362 (by decide) ?_
      refine q_sub (lv' := [(0, .ref b), (1, .ref (σ.2.1 0)), (2, .ref (σ.2.1 69)), (3, .ref (σ.2.1 70)), (4, .ref (σ.2.1 71)), (5, .ref (σ.2.1 72)), (6, .ref (σ.2.1 73)), (7, .ref (σ.2.1 74)), (8, .ref (σ.2.1 19)), (9, .ref (σ.2.1 18)), (10, .int (nI t)), (12, .int y), (14, .int (nI wh)), (15, .int (nI col)), (16, .int (nI (((col + 1) + lo_1327) % 8)))]) [5, 6, 7, 8, 9, 10, 11, 12, 13, 14, 4, 3, 2, 1, 0] rfl ?_
      refine q_stk (st' := [.int (q_w01 False)]) (by rw [q_w01_n (fun z : False => z)] <;> rfl) ?_
      exact J_11 _ ⟨fun z => z.elim, fun z => (z_was hrel.2.2.2.2.2.2.2.2.1 (by omega)).mpr z c_1355⟩
    · skip
      refine q_iconst C (nI 1) dL_law_1358 (by decide) ?_
      refine q_goto C 1363 dL_law_1359 (by decide) ?_
      refine q_sub (lv' := [(0, .ref b), (1, .ref (σ.2.1 0)), (2, .ref (σ.2.1 69)), (3, .ref (σ.2.1 70)), (4, .ref (σ.2.1 71)), (5, .ref (σ.2.1 72)), (6, .ref (σ.2.1 73)), (7, .ref (σ.2.1 74)), (8, .ref (σ.2.1 19)), (9, .ref (σ.2.1 18)), (10, .int (nI t)), (12, .int y), (14, .int (nI wh)), (15, .int (nI col)), (16, .int (nI (((col + 1) + lo_1327) % 8)))]) [5, 6, 7, 8, 9, 10, 11, 12, 13, 14, 4, 3, 2, 1, 0] rfl ?_
      refine q_stk (st' := [.int (q_w01 True)]) (by rw [q_w01_y trivial] <;> rfl) ?_
      exact J_11 _ ⟨fun _ => (z_was hrel.2.2.2.2.2.2.2.2.1 (by omega)).mp c_1355, fun _ => trivial⟩
set_option maxHeartbeats 1000000 in
set_option maxRecDepth 100000 in
/-- a fair day -/
theorem w_fair {σ : q_E} {p : Program} {e : Env} {s : State} {m : MethodId} {below : List Frame} {meth : Method} {c : Code} {Q : State → Prop} {b : Nat} (l : Launch) (hlf : l.stackTraces = false) (C : q_C σ p s m #[Value.ref b] c cL_law 21 RL wsL_law) {cells slots : Nat} (hce : cells + 960 ≤ 658728) (hse : slots + 5760 ≤ 7125285) {V : q_V} {G : q_G} {t n ns g0 : Nat} {gp gs : Nat → Nat} (hrel : zRel V G (30 * t) n ns g0 gp gs) (ht : t < 50) {wh col : Nat} (hwh : wh < 5) (hcol : col < 8) (y : Int32) (kk : z_K σ p l e s m b below meth c Q cells slots t) : q_W σ p l e room_1 s m #[Value.ref b] below meth c Q 21 cells slots V G [(15, .int (nI col)), (14, .int (nI wh)), (12, .int y), (10, .int (nI t)), (0, .ref b), (1, .ref (σ.2.1 0)), (2, .ref (σ.2.1 69)), (3, .ref (σ.2.1 70)), (4, .ref (σ.2.1 71)), (5, .ref (σ.2.1 72)), (6, .ref (σ.2.1 73)), (7, .ref (σ.2.1 74)), (8, .ref (σ.2.1 19)), (9, .ref (σ.2.1 18))] 1477 [] := by
  refine q_aload C dL_law_1477 10 rfl ?_
  refine q_aload C dL_law_1479 9 rfl ?_
  refine q_callSi C (As := [.ref (σ.2.1 73), .ref (σ.2.1 72)]) (rest := []) (zM_lawChain l σ V G hrel.1 (by omega) hrel.2.2.2.2.2.2.2.2.1) 2 gL_law_L_chain rfl rfl rfl (by decide +kernel) ⟨Nat.le_of_ble_eq_true rfl, Nat.le_of_ble_eq_true rfl⟩ dL_law_1481 rfl (Nat.le_of_ble_eq_true rfl) ⟨by show _ ≤ 658728; omega, by show _ ≤ 7125285; omega⟩ (fun r_1481 V_1 G_2 hq_1481 => ?_)
  obtain ⟨⟨rr, hre, rfl⟩, rfl, rfl⟩ := hq_1481
  obtain ⟨B, hB9⟩ : ∃ B, B = q_best (q_crd V) (q_cgt V) := ⟨_, rfl⟩
  rw [← hB9] at hre
  have hbl : B.length ≤ 7 := by rw [hB9]; exact q_best_len _ _
  have hrr := zre_31 hre hbl
  have hchn : z_chn V B := by rw [hB9]; exact z_chn_of hrel.1 hrel.2.2.2.2.2.2.2.2.1
  refine q_istore C [(16, .int (nI rr)), (15, .int (nI col)), (14, .int (nI wh)), (12, .int y), (10, .int (nI t)), (0, .ref b), (1, .ref (σ.2.1 0)), (2, .ref (σ.2.1 69)), (3, .ref (σ.2.1 70)), (4, .ref (σ.2.1 71)), (5, .ref (σ.2.1 72)), (6, .ref (σ.2.1 73)), (7, .ref (σ.2.1 74)), (8, .ref (σ.2.1 19)), (9, .ref (σ.2.1 18))] dL_law_1484 (by decide) rfl ?_
  refine q_iconst C (nI 0) dL_law_1486 (by decide) ?_
  refine q_istore C [(17, .int (nI 0)), (16, .int (nI rr)), (15, .int (nI col)), (14, .int (nI wh)), (12, .int y), (10, .int (nI t)), (0, .ref b), (1, .ref (σ.2.1 0)), (2, .ref (σ.2.1 69)), (3, .ref (σ.2.1 70)), (4, .ref (σ.2.1 71)), (5, .ref (σ.2.1 72)), (6, .ref (σ.2.1 73)), (7, .ref (σ.2.1 74)), (8, .ref (σ.2.1 19)), (9, .ref (σ.2.1 18))] dL_law_1487 (by decide) rfl ?_
  have L_3 : ∀ (nL_3 : Nat) (k : Nat) (hk : k ≤ B.length), B.length - k < nL_3 → q_W σ p l e room_1 s m #[Value.ref b] below meth c Q 21 cells slots (z_fair V B k) G [(17, .int (nI k)), (0, .ref b), (1, .ref (σ.2.1 0)), (2, .ref (σ.2.1 69)), (3, .ref (σ.2.1 70)), (4, .ref (σ.2.1 71)), (5, .ref (σ.2.1 72)), (6, .ref (σ.2.1 73)), (7, .ref (σ.2.1 74)), (8, .ref (σ.2.1 19)), (9, .ref (σ.2.1 18)), (10, .int (nI t)), (12, .int y), (14, .int (nI wh)), (15, .int (nI col)), (16, .int (nI rr))] 1489 [] := by
    intro nL_3
    induction nL_3 with
    | zero => intro k hk h; exact absurd h (Nat.not_lt_zero _)
    | succ nL_3 ihL_3 =>
      intro k hk hmL_3
      refine q_iload C dL_law_1489 15 rfl ?_
      refine q_iconst C (nI 3) dL_law_1491 (by decide) ?_
      refine q_iload C dL_law_1492 0 rfl ?_
      refine q_imulN C dL_law_1494  ?_
      refine q_ishrN C dL_law_1495 (by omega) (by omega) ?_
      refine q_if_leN C 1561 dL_law_1496 (by decide) (Nat.lt_of_le_of_lt (Nat.div_le_self _ _) hrr) (fun c_1496 => ?_) (fun c_1496 => ?_)
      · skip
        have hkB : k = B.length := (zre_0 hre hk).mp c_1496
        refine q_aload_n C dL_law_1561 rfl 2 rfl ?_
        refine q_callVi C (As := []) (rest := []) (k := 0) (by omega) q_enBP rfl rfl (zM_fair l σ V (z_fair V B k) G (fun a h1 h2 => z_fair_off V B k a (by omega)) hrel.2.2.2.2.2.2.2.2.1 (b := B) hB9) 0 gL_law_X2_fair rfl rfl rfl (by decide +kernel) ⟨Nat.le_of_ble_eq_true rfl, Nat.le_of_ble_eq_true rfl⟩ dL_law_1562 rfl (Nat.le_of_ble_eq_true rfl) ⟨by show _ ≤ 658728; omega, by show _ ≤ 7125285; omega⟩ (fun r_1562 Y G_4 hq_1562 => ?_)
        obtain ⟨rfl, ⟨U9, hU9, hU8⟩, rfl⟩ := hq_1562
        refine q_iload C dL_law_1565 0 rfl ?_
        refine q_icmp_eq C 1572 dL_law_1567 (by decide) (fun c_1567 => ?_) (fun c_1567 => absurd c_1567 (by exact fun z => z (by rw [hkB])))
        refine q_sub (lv' := [(15, .int (nI col)), (10, .int (nI t)), (0, .ref b), (1, .ref (σ.2.1 0)), (2, .ref (σ.2.1 69)), (3, .ref (σ.2.1 70)), (4, .ref (σ.2.1 71)), (5, .ref (σ.2.1 72)), (6, .ref (σ.2.1 73)), (7, .ref (σ.2.1 74)), (8, .ref (σ.2.1 19)), (9, .ref (σ.2.1 18))]) [14, 11, 1, 2, 3, 4, 5, 6, 7, 8, 9, 10] rfl ?_
        exact w_tail l hlf C hce hse ((by rw [← hU8]; exact z_fairrel hrel (by omega) hB9 (by rw [← hkB]; exact hU9))) (by omega) ht hcol (by omega) (by omega) kk
      · skip
        have hkB : k < B.length := Nat.lt_of_le_of_ne hk (fun z => by have := (zre_0 hre hk).mpr z; omega)
        have hd9 := hre.2 k (by omega)
        refine q_iload C dL_law_1499 15 rfl ?_
        refine q_iconst C (nI 3) dL_law_1501 (by decide) ?_
        refine q_iload C dL_law_1502 0 rfl ?_
        refine q_imulN C dL_law_1504  ?_
        refine q_ishrN C dL_law_1505 (by omega) (by omega) ?_
        refine q_bipush C (nI 7) dL_law_1506 (by decide) ?_
        refine q_iand7N C dL_law_1508 ?_
        refine q_iconst C (nI 1) dL_law_1509 (by decide) ?_
        refine q_isubN C dL_law_1510 (by rw [hd9]; omega) ?_
        refine q_stk (st' := [.int (nI (B.getD k 0))]) (by rw [hd9, Nat.add_sub_cancel]) ?_
        refine q_istore C [(18, .int (nI (B.getD k 0))), (17, .int (nI k)), (0, .ref b), (1, .ref (σ.2.1 0)), (2, .ref (σ.2.1 69)), (3, .ref (σ.2.1 70)), (4, .ref (σ.2.1 71)), (5, .ref (σ.2.1 72)), (6, .ref (σ.2.1 73)), (7, .ref (σ.2.1 74)), (8, .ref (σ.2.1 19)), (9, .ref (σ.2.1 18)), (10, .int (nI t)), (12, .int y), (14, .int (nI wh)), (15, .int (nI col)), (16, .int (nI rr))] dL_law_1511 (by decide) rfl ?_
        obtain ⟨b7, -, xx, yy, hxx, hyy, -, -, hx73, hy73, -⟩ := hchn k (by omega)
        refine q_aload C dL_law_1513 7 rfl ?_
        refine q_bipush C (nI 8) dL_law_1515 (by decide) ?_
        refine q_iload C dL_law_1517 0 rfl ?_
        refine q_imulN C dL_law_1519  ?_
        refine q_aload C dL_law_1520 8 rfl ?_
        refine q_iconst C (nI 2) dL_law_1522 (by decide) ?_
        refine q_iload C dL_law_1523 0 rfl ?_
        refine q_imulN C dL_law_1525  ?_
        refine q_ialdN C (k := 73) (n := 14) ⟨by decide, by decide, by decide⟩ (by omega) (by decide) dL_law_1526 ?_
        refine q_stk (st' := [.int (nI xx), .int (nI (8 * (B.getD k 0))), .ref (σ.2.1 72)]) (congrArg (fun z => Value.int z :: [.int (nI (8 * (B.getD k 0))), .ref (σ.2.1 72)]) ((congrFun (z_fair_off _ _ _ _ (by decide)) _).trans hx73)) ?_
        refine q_iaddN C dL_law_1527  ?_
        refine q_dup2 C dL_law_1528 rfl rfl ?_
        refine q_ialdN C (k := 72) (n := 64) ⟨by decide, by decide, by decide⟩ (by omega) (by decide) dL_law_1529 ?_
        refine q_iconst C (nI 1) dL_law_1530 (by decide) ?_
        refine q_isub C dL_law_1531 ?_
        refine q_iastN C (k := 72) (n := 64) ⟨by decide, by decide, by decide⟩ (by omega) (by decide) dL_law_1532 ?_
        refine q_aload C dL_law_1533 7 rfl ?_
        refine q_bipush C (nI 8) dL_law_1535 (by decide) ?_
        refine q_iload C dL_law_1537 0 rfl ?_
        refine q_imulN C dL_law_1539  ?_
        refine q_aload C dL_law_1540 8 rfl ?_
        refine q_iconst C (nI 2) dL_law_1542 (by decide) ?_
        refine q_iload C dL_law_1543 0 rfl ?_
        refine q_imulN C dL_law_1545  ?_
        refine q_iconst C (nI 1) dL_law_1546 (by decide) ?_
        refine q_iaddN C dL_law_1547  ?_
        refine q_ialdN C (k := 73) (n := 14) ⟨by decide, by decide, by decide⟩ (by omega) (by decide) dL_law_1548 ?_
        refine q_stk (st' := [.int ((z_fair V B k) 73 ((2 * (B.getD k 0)) + 1)), .int (nI (8 * (B.getD k 0))), .ref (σ.2.1 72)]) (congrArg (fun z => Value.int z :: [.int (nI (8 * (B.getD k 0))), .ref (σ.2.1 72)]) (q_up_ne _ _ (by omega))) ?_
        refine q_stk (st' := [.int (nI yy), .int (nI (8 * (B.getD k 0))), .ref (σ.2.1 72)]) (congrArg (fun z => Value.int z :: [.int (nI (8 * (B.getD k 0))), .ref (σ.2.1 72)]) ((congrFun (z_fair_off _ _ _ _ (by decide)) _).trans hy73)) ?_
        refine q_iaddN C dL_law_1549  ?_
        refine q_dup2 C dL_law_1550 rfl rfl ?_
        refine q_ialdN C (k := 72) (n := 64) ⟨by decide, by decide, by decide⟩ (by omega) (by decide) dL_law_1551 ?_
        refine q_iconst C (nI 1) dL_law_1552 (by decide) ?_
        refine q_iadd C dL_law_1553 ?_
        refine q_iastN C (k := 72) (n := 64) ⟨by decide, by decide, by decide⟩ (by omega) (by decide) dL_law_1554 ?_
        refine q_VG (V' := z_fair V B (k + 1)) (G' := G) (by exact z_fair_step hx73 hy73 hxx hyy) rfl ?_
        refine q_iincN C [(17, .int (nI (k + 1))), (18, .int (nI (B.getD k 0))), (0, .ref b), (1, .ref (σ.2.1 0)), (2, .ref (σ.2.1 69)), (3, .ref (σ.2.1 70)), (4, .ref (σ.2.1 71)), (5, .ref (σ.2.1 72)), (6, .ref (σ.2.1 73)), (7, .ref (σ.2.1 74)), (8, .ref (σ.2.1 19)), (9, .ref (σ.2.1 18)), (10, .int (nI t)), (12, .int y), (14, .int (nI wh)), (15, .int (nI col)), (16, .int (nI rr))] dL_law_1555 1 rfl (by decide) rfl ?_
        refine q_goto C 1489 dL_law_1558 (by decide) ?_
        refine q_sub (lv' := [(17, .int (nI (k + 1))), (0, .ref b), (1, .ref (σ.2.1 0)), (2, .ref (σ.2.1 69)), (3, .ref (σ.2.1 70)), (4, .ref (σ.2.1 71)), (5, .ref (σ.2.1 72)), (6, .ref (σ.2.1 73)), (7, .ref (σ.2.1 74)), (8, .ref (σ.2.1 19)), (9, .ref (σ.2.1 18)), (10, .int (nI t)), (12, .int y), (14, .int (nI wh)), (15, .int (nI col)), (16, .int (nI rr))]) [0, 2, 3, 4, 5, 6, 7, 8, 9, 10, 11, 12, 13, 14, 15, 16] rfl ?_
        exact ihL_3 (k + 1) (by omega) (by omega)
  refine q_sub (lv' := [(17, .int (nI 0)), (0, .ref b), (1, .ref (σ.2.1 0)), (2, .ref (σ.2.1 69)), (3, .ref (σ.2.1 70)), (4, .ref (σ.2.1 71)), (5, .ref (σ.2.1 72)), (6, .ref (σ.2.1 73)), (7, .ref (σ.2.1 74)), (8, .ref (σ.2.1 19)), (9, .ref (σ.2.1 18)), (10, .int (nI t)), (12, .int y), (14, .int (nI wh)), (15, .int (nI col)), (16, .int (nI rr))]) [0, 6, 7, 8, 9, 10, 11, 12, 13, 14, 15, 5, 4, 3, 2, 1] rfl ?_
  refine q_VG (V' := z_fair V B 0) (G' := G) (rfl) rfl ?_
  exact L_3 _ 0 (Nat.zero_le _) (Nat.lt_succ_self _)
