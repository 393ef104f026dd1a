set_option maxHeartbeats 1000000 in
set_option maxRecDepth 20000 in
theorem w_unwish {σ : q_E} {p : Program} {e : Env} {s : State} {m : MethodId} {below : List Frame} {meth : Method} {c : Code} {Q : State → Prop} {b L : Nat} {xs : Nat → Int32} (l : Launch) (hlf : l.stackTraces = false) (C : q_C σ p s m #[Value.ref b] c cL_law 8 RL wsL_law) (X : w_X σ s b L xs) {V : q_V} {G : q_G} {n ns : Nat} (h : q_Rel V G n ns) {i cells slots : Nat} (hi : i + 4 ≤ L) (hcs : cells + 6 ≤ 601024 ∧ slots + 36 ≤ 7293034) (kk : ∀ (V9 : q_V) (G9 : q_G), (∃ n ns, q_Rel V9 G9 n ns) → q_W σ p l e room_1 s m #[Value.ref b] below meth c Q 8 (cells + 6) (slots + 36) V9 G9 (w_lv σ b i) 1753 []) : q_W σ p l e room_1 s m #[Value.ref b] below meth c Q 8 cells slots V G (w_lv σ b i) 1292 [] := by
  have hh := h
  obtain ⟨h1, h2, h3, h4, h5, h6, h7, h8, h9, h10⟩ := hh
  refine q_aload_n C dL_law_1292 rfl 1 rfl ?_
  refine q_aload_n C dL_law_1293 rfl 0 rfl ?_
  refine q_iload C dL_law_1294 4 rfl ?_
  refine q_iconst C (nI 1) dL_law_1296 (by decide) ?_
  refine q_iaddN C dL_law_1297 ?_
  refine w_sld C X (by omega) dL_law_1298 ?_
  refine q_aload_n C dL_law_1299 rfl 3 rfl ?_
  refine q_callWi C (As := [.ref (σ.2.1 0), .int (xs (i + 1)), .ref (σ.2.1 18)]) (rest := []) (kL_unwish l σ V G hlf (xs (i + 1))) 3 gL_law_L_unwish rfl rfl rfl ⟨by decide +kernel, by decide +kernel, by decide +kernel⟩ ⟨Nat.le_of_ble_eq_true rfl, Nat.le_of_ble_eq_true rfl⟩ dL_law_1300 rfl (Nat.le_of_ble_eq_true rfl) ⟨hcs.1, hcs.2⟩ (fun k V1 G1 hL => ?_)
  refine q_istore C [(5, .int k), (0, .ref b), (1, .ref (σ.2.1 0)), (2, .ref (σ.2.1 19)), (3, .ref (σ.2.1 18)), (4, .int (nI i))] dL_law_1303 (by decide) rfl ?_
  refine q_aload_n C dL_law_1305 rfl 3 rfl ?_
  refine q_aload_n C dL_law_1306 rfl 1 rfl ?_
  refine q_iload C dL_law_1307 5 rfl ?_
  refine q_iconst C (nI 1) dL_law_1309 (by decide) ?_
  refine q_iaddN C dL_law_1310 ?_
  refine w_sld C X (by omega) dL_law_1311 ?_
  refine q_callVi C (As := [.int (xs (i + 1))]) (rest := []) (k := 19) (by omega) q_enMO rfl rfl (kX3_unwish l σ V1 G1 (xs (i + 1))) 1 gL_law_X3_unwish rfl rfl rfl ⟨by decide +kernel, by decide +kernel, by decide +kernel⟩ ⟨Nat.le_of_ble_eq_true rfl, Nat.le_of_ble_eq_true rfl⟩ dL_law_1312 rfl (Nat.le_of_ble_eq_true rfl) ⟨by show cells + 6 + 0 ≤ 601024; omega, by show slots + 36 + 0 ≤ 7293034; omega⟩ (fun r V2 G2 hM => ?_)
  have hst := q_sim_unwish h (xs (i + 1)) hL hM
  refine q_istore C [(6, .int r), (5, .int k), (0, .ref b), (1, .ref (σ.2.1 0)), (2, .ref (σ.2.1 19)), (3, .ref (σ.2.1 18)), (4, .int (nI i))] dL_law_1315 (by decide) rfl ?_
  refine q_aload_n C dL_law_1317 rfl 4 rfl ?_
  refine q_callVi C (As := []) (rest := []) (k := 19) (by omega) q_enMO rfl rfl (kX3_thrown l σ V2 G2) 0 gL_law_X3_thrown rfl rfl rfl ⟨by decide +kernel, by decide +kernel, by decide +kernel⟩ ⟨Nat.le_of_ble_eq_true rfl, Nat.le_of_ble_eq_true rfl⟩ dL_law_1318 rfl (Nat.le_of_ble_eq_true rfl) ⟨by show cells + 6 + 0 + 0 ≤ 601024; omega, by show slots + 36 + 0 + 0 ≤ 7293034; omega⟩ (fun t3 V3 G3 hT => ?_)
  obtain ⟨rfl, rfl, rfl⟩ := hT
  refine q_iload C dL_law_1321 1 rfl ?_
  refine q_icmp_eq C 1328 dL_law_1323 (by decide) (fun c1 => ?_) (fun c1 => absurd hst.1 c1)
  refine q_iload C dL_law_1328 1 rfl ?_
  refine q_if_ne C 1352 dL_law_1330 (by decide) (fun c2 => ?_) (fun c2 => ?_)
  · skip
    refine q_goto C 1753 dL_law_1352 (by decide) ?_
    exact q_sub [2, 3, 4, 5, 6] rfl (w_widen (by omega) (by omega) (kk V2 G2 hst.2.2))
  · have hk0 : k = 0 := c2
    have ho := hst.2.1 hk0
    refine q_aload_n C dL_law_1333 rfl 5 rfl ?_
    refine q_iconst C (nI 0) dL_law_1334 (by decide) ?_
    refine q_laldN C (n := 1) ⟨by omega, rfl, rfl⟩ (by omega : 0 < 1) (by omega) dL_law_1335 ?_
    rw [ho]
    refine q_iload C dL_law_1336 0 rfl ?_
    have K : ∀ v : Int64, (if r = 0 then (0 : Int64) else 1) = v → q_W σ p l e room_1 s m #[Value.ref b] below meth c Q 8 (cells + 6 + 0 + 0) (slots + 36 + 0 + 0) V2 G2 [(6, .int r), (5, .int k), (0, .ref b), (1, .ref (σ.2.1 0)), (2, .ref (σ.2.1 19)), (3, .ref (σ.2.1 18)), (4, .int (nI i))] 1346 [.long v, .long (if r = 0 then (0 : Int64) else 1)] := by
      intro v hv
      rw [← hv]
      refine q_lcmp C dL_law_1346 ?_
      rw [lg_cmp_self]
      refine q_if_eq C 1352 dL_law_1347 (by decide) (fun c3 => ?_) (fun c3 => absurd rfl c3)
      refine q_goto C 1753 dL_law_1352 (by decide) ?_
      exact q_sub [2, 3, 4, 5, 6] rfl (w_widen (by omega) (by omega) (kk V2 G2 hst.2.2))
    refine q_if_eq C 1345 dL_law_1338 (by decide) (fun c4 => ?_) (fun c4 => ?_)
    · refine q_lconst C 0 dL_law_1345 (by decide) ?_
      exact K 0 (if_pos c4)
    · refine q_lconst C 1 dL_law_1341 (by decide) ?_
      refine q_goto C 1346 dL_law_1342 (by decide) ?_
      exact K 1 (if_neg c4)
set_option maxHeartbeats 1000000 in
set_option maxRecDepth 20000 in
theorem w_chain {σ : q_E} {p : Program} {e : Env} {s : State} {m : MethodId} {below : List Frame} {meth : Method} {c : Code} {Q : State → Prop} {b L : Nat} {xs : Nat → Int32} (l : Launch) (hlf : l.stackTraces = false) (C : q_C σ p s m #[Value.ref b] c cL_law 8 RL wsL_law) (X : w_X σ s b L xs) {V : q_V} {G : q_G} {n ns : Nat} (h : q_Rel V G n ns) {i cells slots : Nat} (hi : i + 4 ≤ L) (hcs : cells + 6 ≤ 601024 ∧ slots + 36 ≤ 7293034) (kk : ∀ (V9 : q_V) (G9 : q_G), (∃ n ns, q_Rel V9 G9 n ns) → q_W σ p l e room_1 s m #[Value.ref b] below meth c Q 8 (cells + 6) (slots + 36) V9 G9 (w_lv σ b i) 1753 []) : q_W σ p l e room_1 s m #[Value.ref b] below meth c Q 8 cells slots V G (w_lv σ b i) 1355 [] := by
  have hh := h
  obtain ⟨h1, h2, h3, h4, h5, h6, h7, h8, h9, h10⟩ := hh
  refine q_aload_n C dL_law_1355 rfl 1 rfl ?_
  refine q_callVi C (As := []) (rest := []) (k := 0) (by omega) q_enBP rfl rfl (kX2_chain l σ V G (q_Rel_wish h9).2) 0 gL_law_X2_chain rfl rfl rfl ⟨by decide +kernel, by decide +kernel, by decide +kernel⟩ ⟨Nat.le_of_ble_eq_true rfl, Nat.le_of_ble_eq_true rfl⟩ dL_law_1356 rfl (Nat.le_of_ble_eq_true rfl) ⟨by show cells + 0 ≤ 601024; omega, by show slots + 0 ≤ 7293034; omega⟩ (fun r1 V1 G1 hL => ?_)
  have hm : q_m V V1 := q_m_boff hL.2.1
  refine q_aload_n C dL_law_1359 rfl 2 rfl ?_
  refine q_callVi C (As := []) (rest := [.int r1]) (k := 19) (by omega) q_enMO rfl rfl (kX3_chain l σ V1 G1 (w_mw h9 hm)) 0 gL_law_X3_chain rfl rfl rfl ⟨by decide +kernel, by decide +kernel, by decide +kernel⟩ ⟨Nat.le_of_ble_eq_true rfl, Nat.le_of_ble_eq_true rfl⟩ dL_law_1360 rfl (Nat.le_of_ble_eq_true rfl) ⟨by show cells + 0 + 0 ≤ 601024; omega, by show slots + 0 + 0 ≤ 7293034; omega⟩ (fun r2 V2 G2 hM => ?_)
  have hst := q_sim_chain h hL hM
  refine q_icmp_eq C 1753 dL_law_1363 (by decide) (fun c1 => ?_) (fun c1 => absurd hst.1 c1)
  exact w_widen (by omega) (by omega) (kk V2 G2 hst.2)
set_option maxHeartbeats 1000000 in
set_option maxRecDepth 20000 in
theorem w_chainByOrders {σ : q_E} {p : Program} {e : Env} {s : State} {m : MethodId} {below : List Frame} {meth : Method} {c : Code} {Q : State → Prop} {b L : Nat} {xs : Nat → Int32} (l : Launch) (hlf : l.stackTraces = false) (C : q_C σ p s m #[Value.ref b] c cL_law 8 RL wsL_law) (X : w_X σ s b L xs) {V : q_V} {G : q_G} {n ns : Nat} (h : q_Rel V G n ns) {i cells slots : Nat} (hi : i + 4 ≤ L) (hcs : cells + 6 ≤ 601024 ∧ slots + 36 ≤ 7293034) (kk : ∀ (V9 : q_V) (G9 : q_G), (∃ n ns, q_Rel V9 G9 n ns) → q_W σ p l e room_1 s m #[Value.ref b] below meth c Q 8 (cells + 6) (slots + 36) V9 G9 (w_lv σ b i) 1753 []) : q_W σ p l e room_1 s m #[Value.ref b] below meth c Q 8 cells slots V G (w_lv σ b i) 1368 [] := by
  have hh := h
  obtain ⟨h1, h2, h3, h4, h5, h6, h7, h8, h9, h10⟩ := hh
  refine q_aload_n C dL_law_1368 rfl 1 rfl ?_
  refine q_callVi C (As := []) (rest := []) (k := 0) (by omega) q_enBP rfl rfl (kX2_chainByOrders l σ V G (q_Rel_wish h9).2) 0 gL_law_X2_chainByOrders rfl rfl rfl ⟨by decide +kernel, by decide +kernel, by decide +kernel⟩ ⟨Nat.le_of_ble_eq_true rfl, Nat.le_of_ble_eq_true rfl⟩ dL_law_1369 rfl (Nat.le_of_ble_eq_true rfl) ⟨by show cells + 0 ≤ 601024; omega, by show slots + 0 ≤ 7293034; omega⟩ (fun r1 V1 G1 hL => ?_)
  have hm : q_m V V1 := q_m_boff hL.2.1
  refine q_aload_n C dL_law_1372 rfl 2 rfl ?_
  refine q_callVi C (As := []) (rest := [.int r1]) (k := 19) (by omega) q_enMO rfl rfl (kX3_chainByOrders l σ V1 G1 (w_mw h9 hm)) 0 gL_law_X3_chainByOrders rfl rfl rfl ⟨by decide +kernel, by decide +kernel, by decide +kernel⟩ ⟨Nat.le_of_ble_eq_true rfl, Nat.le_of_ble_eq_true rfl⟩ dL_law_1373 rfl (Nat.le_of_ble_eq_true rfl) ⟨by show cells + 0 + 0 ≤ 601024; omega, by show slots + 0 + 0 ≤ 7293034; omega⟩ (fun r2 V2 G2 hM => ?_)
  have hst := q_sim_chain h hL hM
  refine q_icmp_eq C 1753 dL_law_1376 (by decide) (fun c1 => ?_) (fun c1 => absurd hst.1 c1)
  exact w_widen (by omega) (by omega) (kk V2 G2 hst.2)
set_option maxHeartbeats 1000000 in
set_option maxRecDepth 20000 in
theorem w_chainAt {σ : q_E} {p : Program} {e : Env} {s : State} {m : MethodId} {below : List Frame} {meth : Method} {c : Code} {Q : State → Prop} {b L : Nat} {xs : Nat → Int32} (l : Launch) (hlf : l.stackTraces = false) (C : q_C σ p s m #[Value.ref b] c cL_law 8 RL wsL_law) (X : w_X σ s b L xs) {V : q_V} {G : q_G} {n ns : Nat} (h : q_Rel V G n ns) {i cells slots : Nat} (hi : i + 4 ≤ L) (hcs : cells + 6 ≤ 601024 ∧ slots + 36 ≤ 7293034) (kk : ∀ (V9 : q_V) (G9 : q_G), (∃ n ns, q_Rel V9 G9 n ns) → q_W σ p l e room_1 s m #[Value.ref b] below meth c Q 8 (cells + 6) (slots + 36) V9 G9 (w_lv σ b i) 1753 []) : q_W σ p l e room_1 s m #[Value.ref b] below meth c Q 8 cells slots V G (w_lv σ b i) 1381 [] := by
  have hh := h
  obtain ⟨h1, h2, h3, h4, h5, h6, h7, h8, h9, h10⟩ := hh
  refine q_aload_n C dL_law_1381 rfl 1 rfl ?_
  refine q_aload_n C dL_law_1382 rfl 0 rfl ?_
  refine q_iload C dL_law_1383 4 rfl ?_
  refine q_iconst C (nI 1) dL_law_1385 (by decide) ?_
  refine q_iaddN C dL_law_1386 ?_
  refine w_sld C X (by omega) dL_law_1387 ?_
  refine q_aload_n C dL_law_1388 rfl 3 rfl ?_
  refine q_callWi C (As := [.ref (σ.2.1 0), .int (xs (i + 1)), .ref (σ.2.1 18)]) (rest := []) (kL_chainAt l σ V G hlf (q_Rel_wish h9).2 (xs (i + 1))) 3 gL_law_L_chainAt rfl rfl rfl ⟨by decide +kernel, by decide +kernel, by decide +kernel⟩ ⟨Nat.le_of_ble_eq_true rfl, Nat.le_of_ble_eq_true rfl⟩ dL_law_1389 rfl (Nat.le_of_ble_eq_true rfl) ⟨hcs.1, hcs.2⟩ (fun k V1 G1 hL => ?_)
  have hm : q_m V V1 := by
    rcases hL with ⟨r9, V9, G9, hq, -, rfl, -⟩ | ⟨E9, hq, -⟩
    · exact q_m_boff hq.2.2.1
    · exact q_m_boff hq.2.1
  refine q_istore C [(5, .int k), (0, .ref b), (1, .ref (σ.2.1 0)), (2, .ref (σ.2.1 19)), (3, .ref (σ.2.1 18)), (4, .int (nI i))] dL_law_1392 (by decide) rfl ?_
  refine q_aload_n C dL_law_1394 rfl 3 rfl ?_
  refine q_aload_n C dL_law_1395 rfl 1 rfl ?_
  refine q_iload C dL_law_1396 5 rfl ?_
  refine q_iconst C (nI 1) dL_law_1398 (by decide) ?_
  refine q_iaddN C dL_law_1399 ?_
  refine w_sld C X (by omega) dL_law_1400 ?_
  refine q_callVi C (As := [.int (xs (i + 1))]) (rest := []) (k := 19) (by omega) q_enMO rfl rfl (kX3_chainAt l σ V1 G1 (w_mw h9 hm) (xs (i + 1))) 1 gL_law_X3_chainAt rfl rfl rfl ⟨by decide +kernel, by decide +kernel, by decide +kernel⟩ ⟨Nat.le_of_ble_eq_true rfl, Nat.le_of_ble_eq_true rfl⟩ dL_law_1401 rfl (Nat.le_of_ble_eq_true rfl) ⟨by show cells + 6 + 0 ≤ 601024; omega, by show slots + 36 + 0 ≤ 7293034; omega⟩ (fun r V2 G2 hM => ?_)
  have hst := q_sim_chainAt h (xs (i + 1)) hL hM
  refine q_istore C [(6, .int r), (5, .int k), (0, .ref b), (1, .ref (σ.2.1 0)), (2, .ref (σ.2.1 19)), (3, .ref (σ.2.1 18)), (4, .int (nI i))] dL_law_1404 (by decide) rfl ?_
  refine q_aload_n C dL_law_1406 rfl 4 rfl ?_
  refine q_callVi C (As := []) (rest := []) (k := 19) (by omega) q_enMO rfl rfl (kX3_thrown l σ V2 G2) 0 gL_law_X3_thrown rfl rfl rfl ⟨by decide +kernel, by decide +kernel, by decide +kernel⟩ ⟨Nat.le_of_ble_eq_true rfl, Nat.le_of_ble_eq_true rfl⟩ dL_law_1407 rfl (Nat.le_of_ble_eq_true rfl) ⟨by show cells + 6 + 0 + 0 ≤ 601024; omega, by show slots + 36 + 0 + 0 ≤ 7293034; omega⟩ (fun t3 V3 G3 hT => ?_)
  obtain ⟨rfl, rfl, rfl⟩ := hT
  refine q_iload C dL_law_1410 1 rfl ?_
  refine q_icmp_eq C 1417 dL_law_1412 (by decide) (fun c1 => ?_) (fun c1 => absurd hst.1 c1)
  refine q_iload C dL_law_1417 1 rfl ?_
  refine q_if_ne C 1434 dL_law_1419 (by decide) (fun c2 => ?_) (fun c2 => ?_)
  · skip
    refine q_goto C 1753 dL_law_1434 (by decide) ?_
    exact q_sub [2, 3, 4, 5, 6] rfl (w_widen (by omega) (by omega) (kk V2 G2 hst.2.2))
  · have hk0 : k = 0 := c2
    have ho := hst.2.1 hk0
    refine q_aload_n C dL_law_1422 rfl 5 rfl ?_
    refine q_iconst C (nI 0) dL_law_1423 (by decide) ?_
    refine q_laldN C (n := 1) ⟨by omega, rfl, rfl⟩ (by omega : 0 < 1) (by omega) dL_law_1424 ?_
    rw [ho]
    refine q_iload C dL_law_1425 0 rfl ?_
    refine q_i2l C dL_law_1427 ?_
    refine q_lcmp C dL_law_1428 ?_
    rw [lg_cmp_self]
    refine q_if_eq C 1434 dL_law_1429 (by decide) (fun c3 => ?_) (fun c3 => absurd rfl c3)
    refine q_goto C 1753 dL_law_1434 (by decide) ?_
    exact q_sub [2, 3, 4, 5, 6] rfl (w_widen (by omega) (by omega) (kk V2 G2 hst.2.2))
set_option maxHeartbeats 1000000 in
set_option maxRecDepth 20000 in
theorem w_fair {σ : q_E} {p : Program} {e : Env} {s : State} {m : MethodId} {below : List Frame} {meth : Method} {c : Code} {Q : State → Prop} {b L : Nat} {xs : Nat → Int32} (l : Launch) (hlf : l.stackTraces = false) (C : q_C σ p s m #[Value.ref b] c cL_law 8 RL wsL_law) (X : w_X σ s b L xs) {V : q_V} {G : q_G} {n ns : Nat} (h : q_Rel V G n ns) {i cells slots : Nat} (hi : i + 4 ≤ L) (hcs : cells + 6 ≤ 601024 ∧ slots + 36 ≤ 7293034) (kk : ∀ (V9 : q_V) (G9 : q_G), (∃ n ns, q_Rel V9 G9 n ns) → q_W σ p l e room_1 s m #[Value.ref b] below meth c Q 8 (cells + 6) (slots + 36) V9 G9 (w_lv σ b i) 1753 []) : q_W σ p l e room_1 s m #[Value.ref b] below meth c Q 8 cells slots V G (w_lv σ b i) 1437 [] := by
  have hh := h
  obtain ⟨h1, h2, h3, h4, h5, h6, h7, h8, h9, h10⟩ := hh
  refine q_aload_n C dL_law_1437 rfl 1 rfl ?_
  refine q_callVi C (As := []) (rest := []) (k := 0) (by omega) q_enBP rfl rfl (kX2_fair l σ V G (q_Rel_wish h9).2) 0 gL_law_X2_fair rfl rfl rfl ⟨by decide +kernel, by decide +kernel, by decide +kernel⟩ ⟨Nat.le_of_ble_eq_true rfl, Nat.le_of_ble_eq_true rfl⟩ dL_law_1438 rfl (Nat.le_of_ble_eq_true rfl) ⟨by show cells + 0 ≤ 601024; omega, by show slots + 0 ≤ 7293034; omega⟩ (fun r1 V1 G1 hL => ?_)
  have hm : q_m V V1 := q_m_exch hL.2.1
  refine q_aload_n C dL_law_1441 rfl 2 rfl ?_
  refine q_callVi C (As := []) (rest := [.int r1]) (k := 19) (by omega) q_enMO rfl rfl (kX3_fair l σ V1 G1 (w_mw h9 hm)) 0 gL_law_X3_fair rfl rfl rfl ⟨by decide +kernel, by decide +kernel, by decide +kernel⟩ ⟨Nat.le_of_ble_eq_true rfl, Nat.le_of_ble_eq_true rfl⟩ dL_law_1442 rfl (Nat.le_of_ble_eq_true rfl) ⟨by show cells + 0 + 0 ≤ 601024; omega, by show slots + 0 + 0 ≤ 7293034; omega⟩ (fun r2 V2 G2 hM => ?_)
  have hst := q_sim_fair h hL hM
  refine q_icmp_eq C 1753 dL_law_1445 (by decide) (fun c1 => ?_) (fun c1 => absurd hst.1 c1)
  exact w_widen (by omega) (by omega) (kk V2 G2 hst.2)
