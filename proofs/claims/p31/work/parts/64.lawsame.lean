theorem z_boff_tr {V U W : q_V} (h1 : q_boff V U) (h2 : q_boff U W) : q_boff V W := fun a j x y z w => (h2 a j x y z w).trans (h1 a j x y z w)
theorem z_bp {V : q_V} {n k : Nat} (h7 : zR7 V n) (hk : k < 6) (h : 0 ≤ V 71 (2 * k)) : ∃ pa, pa < n ∧ V 71 (2 * k) = nI pa ∧ V 6 k = nI pa := by
  obtain ⟨b1, -, b3⟩ := h7.1 k hk
  rw [b1] at h ⊢
  rcases b3 with e | ⟨pa, hp, e⟩
  · rw [e] at h
    exact absurd h (by decide)
  · exact ⟨pa, hp, e, e⟩
theorem z_bn {V : q_V} {n k : Nat} (hn : n ≤ 6) (h7 : zR7 V n) (hk : k < 6) (h : ¬ 0 ≤ V 71 (2 * k)) : V 6 k = -1 := by
  obtain ⟨b1, -, b3⟩ := h7.1 k hk
  rw [b1] at h
  rcases b3 with e | ⟨pa, hp, e⟩
  · exact e
  · rw [e] at h
    exact absurd (Int32.not_lt.mp (nI_pos (show pa < 2 ^ 31 by omega))) h
theorem z_cbs6 {V : q_V} {n : Nat} (h7 : zR7 V n) (c : Nat) : q_cbs V c 20 = q_cbs V c 6 := by
  have h : ∀ d, d ≤ 14 → q_cbs V c (6 + d) = q_cbs V c 6 := by
    intro d
    induction d with
    | zero => intro _; rfl
    | succ d ih =>
      intro hd
      show q_cbs V c (6 + d) + q_cbelt V (6 + d) (nI c) = q_cbs V c 6
      rw [ih (by omega), q_cbelt_n (h7.2.1 (6 + d) (by omega) (by omega)), Int32.add_zero]
  exact h 14 (Nat.le_refl _)
abbrev rL_same : Room := { frames := 12, cells := 600, slots := 3600, locals := 436 }
set_option maxHeartbeats 4000000 in
set_option maxRecDepth 100000 in
/-- same -/
theorem kL_same (l : Launch) (σ : q_E) (V : q_V) (G : q_G) (hlf : l.stackTraces = false) {Bd n ns g0 : Nat} {gp gs : Nat → Nat} (h : zRel V G Bd n ns g0 gp gs) (hBd : Bd < 2 ^ 31) (al : Int32) : q_Mi l yL_same wsL_same rL_same σ [.ref (σ.2.1 0), .ref (σ.2.1 69), .ref (σ.2.1 71), .ref (σ.2.1 72), .ref (σ.2.1 73), .ref (σ.2.1 74), .ref (σ.2.1 19), .int al] V G (fun r V' G' => nI 1 = r ∧ q_boff V V' ∧ G = G') 600 3600 := by
  refine q_Mi_of (cc := cL_same) (maxL := 13) (lv := [(0, .ref (σ.2.1 0)), (1, .ref (σ.2.1 69)), (2, .ref (σ.2.1 71)), (3, .ref (σ.2.1 72)), (4, .ref (σ.2.1 73)), (5, .ref (σ.2.1 74)), (6, .ref (σ.2.1 19)), (7, .int al)]) (by decide +kernel) rfl (Nat.le_of_ble_eq_true rfl) rfl ?_
  intro p e s m args below meth c Q C hR
  have hh := h
  obtain ⟨v1, v2, v3, v4, v5, v6, v7, v8, v9, v10⟩ := hh
  refine q_aload C dL_same_0 4 rfl ?_
  refine q_aload_n C dL_same_2 rfl 3 rfl ?_
  refine q_callSi C (As := [.ref (σ.2.1 73), .ref (σ.2.1 72)]) (rest := []) (zM_lawChain l σ V G v1 hBd v9) 2 gL_same_L_chain rfl rfl rfl (by decide +kernel) ⟨Nat.le_of_ble_eq_true rfl, Nat.le_of_ble_eq_true rfl⟩ dL_same_3 rfl (Nat.le_of_ble_eq_true rfl) ⟨Nat.le_of_ble_eq_true rfl, Nat.le_of_ble_eq_true rfl⟩ (fun r_3 V_1 G_2 hq_3 => ?_)
  obtain ⟨⟨rr, hre, rfl⟩, rfl, rfl⟩ := hq_3
  obtain ⟨B, hB9⟩ : ∃ B, B = q_best (q_crd V) (q_cgt V) := ⟨_, rfl⟩
  rw [← hB9] at hre
  have hbl : B.length ≤ 7 := by rw [hB9]; exact q_best_len _ _
  have hrr := zre_31 hre hbl
  refine q_istore C [(8, .int (nI rr)), (0, .ref (σ.2.1 0)), (1, .ref (σ.2.1 69)), (2, .ref (σ.2.1 71)), (3, .ref (σ.2.1 72)), (4, .ref (σ.2.1 73)), (5, .ref (σ.2.1 74)), (6, .ref (σ.2.1 19)), (7, .int al)] dL_same_6 (by decide) rfl ?_
  refine q_iconst C (nI 0) dL_same_8 (by decide) ?_
  refine q_istore C [(9, .int (nI 0)), (8, .int (nI rr)), (0, .ref (σ.2.1 0)), (1, .ref (σ.2.1 69)), (2, .ref (σ.2.1 71)), (3, .ref (σ.2.1 72)), (4, .ref (σ.2.1 73)), (5, .ref (σ.2.1 74)), (6, .ref (σ.2.1 19)), (7, .int al)] dL_same_9 (by decide) rfl ?_
  have L_3 : ∀ (nL_3 : Nat) (m9 : Nat) (hm9 : m9 ≤ B.length), B.length - m9 < nL_3 → q_W σ p l e rL_same s m args below meth c Q 13 0 0 V G [(9, .int (nI m9)), (0, .ref (σ.2.1 0)), (1, .ref (σ.2.1 69)), (2, .ref (σ.2.1 71)), (3, .ref (σ.2.1 72)), (4, .ref (σ.2.1 73)), (5, .ref (σ.2.1 74)), (6, .ref (σ.2.1 19)), (7, .int al), (8, .int (nI rr))] 11 [] := by
    intro nL_3
    induction nL_3 with
    | zero => intro m9 hm9 h; exact absurd h (Nat.not_lt_zero _)
    | succ nL_3 ihL_3 =>
      intro m9 hm9 hmL_3
      refine q_iload C dL_same_11 9 rfl ?_
      refine q_iconst C (nI 3) dL_same_13 (by decide) ?_
      refine q_iload C dL_same_14 0 rfl ?_
      refine q_imulN C dL_same_16  ?_
      refine q_ishrN C dL_same_17 (by omega) (by omega) ?_
      refine q_if_leN C 27 dL_same_18 (by decide) (Nat.lt_of_le_of_lt (Nat.div_le_self _ _) hrr) (fun c_18 => ?_) (fun c_18 => ?_)
      · skip
        have hmB : m9 = B.length := (zre_0 hre hm9).mp c_18
        refine q_iconst C (nI 0) dL_same_27 (by decide) ?_
        refine q_istore C [(10, .int (nI 0)), (9, .int (nI m9)), (0, .ref (σ.2.1 0)), (1, .ref (σ.2.1 69)), (2, .ref (σ.2.1 71)), (3, .ref (σ.2.1 72)), (4, .ref (σ.2.1 73)), (5, .ref (σ.2.1 74)), (6, .ref (σ.2.1 19)), (7, .int al), (8, .int (nI rr))] dL_same_28 (by decide) rfl ?_
        have L_4 : ∀ (nL_4 : Nat) (k cl sl : Nat) (U : q_V) (hk : k ≤ B.length) (hU : q_boff V U) (hcl : cl ≤ 6 * k) (hsl : sl ≤ 36 * k), B.length - k < nL_4 → q_W σ p l e rL_same s m args below meth c Q 13 cl sl U G [(10, .int (nI k)), (0, .ref (σ.2.1 0)), (1, .ref (σ.2.1 69)), (2, .ref (σ.2.1 71)), (3, .ref (σ.2.1 72)), (4, .ref (σ.2.1 73)), (5, .ref (σ.2.1 74)), (6, .ref (σ.2.1 19)), (7, .int al), (8, .int (nI rr)), (9, .int (nI m9))] 30 [] := by
          intro nL_4
          induction nL_4 with
          | zero => intro k cl sl U hk hU hcl hsl h; exact absurd h (Nat.not_lt_zero _)
          | succ nL_4 ihL_4 =>
            intro k cl sl U hk hU hcl hsl hmL_4
            refine q_iload C dL_same_30 0 rfl ?_
            refine q_iload C dL_same_32 10 rfl ?_
            refine q_icmp_geN C 66 dL_same_34 (by decide) (by omega) (by omega) (fun c_34 => ?_) (fun c_34 => ?_)
            · skip
              have hkB : k = B.length := by omega
              obtain ⟨u1, u2, u3, u4, u5, u6, u7, u8, u9, u10⟩ := zRel_boff h hU
              have hn6 := u4.2.2.1
              refine q_iconst C (nI 0) dL_same_66 (by decide) ?_
              refine q_istore C [(10, .int (nI 0)), (0, .ref (σ.2.1 0)), (1, .ref (σ.2.1 69)), (2, .ref (σ.2.1 71)), (3, .ref (σ.2.1 72)), (4, .ref (σ.2.1 73)), (5, .ref (σ.2.1 74)), (6, .ref (σ.2.1 19)), (7, .int al), (8, .int (nI rr)), (9, .int (nI m9))] dL_same_67 (by decide) rfl ?_
              have L_5 : ∀ (nL_5 : Nat) (c9 cl2 sl2 : Nat) (hc9 : c9 ≤ 8) (hcl2 : cl2 ≤ 42 + 54 * c9) (hsl2 : sl2 ≤ 252 + 324 * c9), 8 - c9 < nL_5 → q_W σ p l e rL_same s m args below meth c Q 13 cl2 sl2 U G [(10, .int (nI c9)), (0, .ref (σ.2.1 0)), (1, .ref (σ.2.1 69)), (2, .ref (σ.2.1 71)), (3, .ref (σ.2.1 72)), (4, .ref (σ.2.1 73)), (5, .ref (σ.2.1 74)), (6, .ref (σ.2.1 19)), (7, .int al), (8, .int (nI rr)), (9, .int (nI m9))] 69 [] := by
                intro nL_5
                induction nL_5 with
                | zero => intro c9 cl2 sl2 hc9 hcl2 hsl2 h; exact absurd h (Nat.not_lt_zero _)
                | succ nL_5 ihL_5 =>
                  intro c9 cl2 sl2 hc9 hcl2 hsl2 hmL_5
                  refine q_iload C dL_same_69 0 rfl ?_
                  refine q_bipush C (nI 8) dL_same_71 (by decide) ?_
                  refine q_icmp_geN C 237 dL_same_73 (by decide) (by omega) (by omega) (fun c_73 => ?_) (fun c_73 => ?_)
                  · skip
                    refine q_iconst C (nI 0) dL_same_237 (by decide) ?_
                    refine q_istore C [(10, .int (nI 0)), (0, .ref (σ.2.1 0)), (1, .ref (σ.2.1 69)), (2, .ref (σ.2.1 71)), (3, .ref (σ.2.1 72)), (4, .ref (σ.2.1 73)), (5, .ref (σ.2.1 74)), (6, .ref (σ.2.1 19)), (7, .int al), (8, .int (nI rr)), (9, .int (nI m9))] dL_same_238 (by decide) rfl ?_
                    have L_6 : ∀ (nL_6 : Nat) (k cl4 sl4 : Nat) (hk : k ≤ 7) (hcl4 : cl4 ≤ 474 + 12 * k) (hsl4 : sl4 ≤ 2844 + 72 * k), 7 - k < nL_6 → q_W σ p l e rL_same s m args below meth c Q 13 cl4 sl4 U G [(10, .int (nI k)), (0, .ref (σ.2.1 0)), (1, .ref (σ.2.1 69)), (2, .ref (σ.2.1 71)), (3, .ref (σ.2.1 72)), (4, .ref (σ.2.1 73)), (5, .ref (σ.2.1 74)), (6, .ref (σ.2.1 19)), (7, .int al), (8, .int (nI rr)), (9, .int (nI m9))] 240 [] := by
                      intro nL_6
                      induction nL_6 with
                      | zero => intro k cl4 sl4 hk hcl4 hsl4 h; exact absurd h (Nat.not_lt_zero _)
                      | succ nL_6 ihL_6 =>
                        intro k cl4 sl4 hk hcl4 hsl4 hmL_6
                        refine q_iload C dL_same_240 0 rfl ?_
                        refine q_bipush C (nI 7) dL_same_242 (by decide) ?_
                        refine q_icmp_geN C 344 dL_same_244 (by decide) (by omega) (by omega) (fun c_244 => ?_) (fun c_244 => ?_)
                        · skip
                          refine q_iconst C (nI 0) dL_same_344 (by decide) ?_
                          refine q_istore C [(10, .int (nI 0)), (0, .ref (σ.2.1 0)), (1, .ref (σ.2.1 69)), (2, .ref (σ.2.1 71)), (3, .ref (σ.2.1 72)), (4, .ref (σ.2.1 73)), (5, .ref (σ.2.1 74)), (6, .ref (σ.2.1 19)), (7, .int al), (8, .int (nI rr)), (9, .int (nI m9))] dL_same_345 (by decide) rfl ?_
                          have L_7 : ∀ (nL_7 : Nat) (k cl5 sl5 : Nat) (hk : k ≤ 6) (hcl5 : cl5 ≤ 558 + 6 * k) (hsl5 : sl5 ≤ 3348 + 36 * k), 6 - k < nL_7 → q_W σ p l e rL_same s m args below meth c Q 13 cl5 sl5 U G [(10, .int (nI k)), (0, .ref (σ.2.1 0)), (1, .ref (σ.2.1 69)), (2, .ref (σ.2.1 71)), (3, .ref (σ.2.1 72)), (4, .ref (σ.2.1 73)), (5, .ref (σ.2.1 74)), (6, .ref (σ.2.1 19)), (7, .int al), (8, .int (nI rr)), (9, .int (nI m9))] 347 [] := by
                            intro nL_7
                            induction nL_7 with
                            | zero => intro k cl5 sl5 hk hcl5 hsl5 h; exact absurd h (Nat.not_lt_zero _)
                            | succ nL_7 ihL_7 =>
                              intro k cl5 sl5 hk hcl5 hsl5 hmL_7
                              refine q_iload C dL_same_347 0 rfl ?_
                              refine q_bipush C (nI 6) dL_same_349 (by decide) ?_
                              refine q_icmp_geN C 404 dL_same_351 (by decide) (by omega) (by omega) (fun c_351 => ?_) (fun c_351 => ?_)
                              · skip
                                refine q_aload_n C dL_same_404 rfl 1 rfl ?_
                                refine q_callVi C (As := []) (rest := []) (k := 0) (by omega) q_enBP rfl rfl (zM_chain l σ U G u9) 0 gL_same_X2_chain rfl rfl rfl (by decide +kernel) ⟨Nat.le_of_ble_eq_true rfl, Nat.le_of_ble_eq_true rfl⟩ dL_same_405 rfl (Nat.le_of_ble_eq_true rfl) ⟨by show _ ≤ 600; omega, by show _ ≤ 3600; omega⟩ (fun r_405 V_8 G_9 hq_405 => ?_)
                                obtain ⟨hca_405, hcb_405, rfl⟩ := hq_405
                                rw [z_best_boff hU, ← hB9] at hca_405
                                subst hca_405
                                have hL : q_boff V V_8 := z_boff_tr hU hcb_405
                                obtain ⟨-, -, -, -, -, -, -, -, z9, -⟩ := zRel_boff h hL
                                refine q_iload C dL_same_408 10 rfl ?_
                                refine q_icmp_ne C 444 dL_same_410 (by decide) (fun c_410 => absurd c_410 (by exact fun z => z (by rw [hmB]))) (fun c_410 => ?_)
                                refine q_iload C dL_same_413 8 rfl ?_
                                refine q_if_eq C 427 dL_same_415 (by decide) (fun c_415 => ?_) (fun c_415 => ?_)
                                · skip
                                  refine q_aload_n C dL_same_427 rfl 1 rfl ?_
                                  refine q_iconst C (nI 4) dL_same_428 (by decide) ?_
                                  refine q_iload C dL_same_429 10 rfl ?_
                                  refine q_iconst C (nI 0) dL_same_431 (by decide) ?_
                                  refine q_iconst C (nI 0) dL_same_432 (by decide) ?_
                                  refine q_callWi C (As := [.ref (σ.2.1 0), .int (nI 4), .int (nI m9), .int (nI 0), .int (nI 0)]) (rest := []) (zM_noChainAt l σ V_8 G hlf z9 (k := m9) (by rw [z_best_boff hL, ← hB9]; exact hmB) (nI 0) (nI 0)) 5 gL_same_L_refused rfl rfl rfl (by decide +kernel) ⟨Nat.le_of_ble_eq_true rfl, Nat.le_of_ble_eq_true rfl⟩ dL_same_433 rfl (Nat.le_of_ble_eq_true rfl) ⟨by show _ ≤ 600; omega, by show _ ≤ 3600; omega⟩ (fun r_433 V_10 G_11 hq_433 => ?_)
                                  obtain ⟨rfl, hcf_433, rfl⟩ := hq_433
                                  refine q_iconst C (nI 1) dL_same_436 (by decide) ?_
                                  refine q_icmp_neN C 444 dL_same_437 (by decide) (by omega) (by omega) (fun c_437 => absurd c_437 (by omega)) (fun _ => ?_)
                                  refine q_iconst C (nI 1) dL_same_440 (by decide) ?_
                                  refine q_goto C 445 dL_same_441 (by decide) ?_
                                  refine hR _ _ _ _ _ _ _ ?_ (by first | rfl | decide) (by omega) (by omega) dL_same_445
                                  exact ⟨rfl, z_boff_tr hL hcf_433, rfl⟩
                                · skip
                                  refine q_aload_n C dL_same_418 rfl 1 rfl ?_
                                  refine q_callVi C (As := []) (rest := []) (k := 0) (by omega) q_enBP rfl rfl (zM_chainByOrders l σ V_8 G z9) 0 gL_same_X2_chainByOrders rfl rfl rfl (by decide +kernel) ⟨Nat.le_of_ble_eq_true rfl, Nat.le_of_ble_eq_true rfl⟩ dL_same_419 rfl (Nat.le_of_ble_eq_true rfl) ⟨by show _ ≤ 600; omega, by show _ ≤ 3600; omega⟩ (fun r_419 V_12 G_13 hq_419 => ?_)
                                  obtain ⟨hca_419, hcb_419, rfl⟩ := hq_419
                                  rw [z_best_boff hL, ← hB9] at hca_419
                                  subst hca_419
                                  have hL : q_boff V V_12 := z_boff_tr hL hcb_419
                                  obtain ⟨-, -, -, -, -, -, -, -, z9, -⟩ := zRel_boff h hL
                                  refine q_iload C dL_same_422 10 rfl ?_
                                  refine q_icmp_ne C 444 dL_same_424 (by decide) (fun c_424 => absurd c_424 (by exact fun z => z (by rw [hmB]))) (fun c_424 => ?_)
                                  refine q_aload_n C dL_same_427 rfl 1 rfl ?_
                                  refine q_iconst C (nI 4) dL_same_428 (by decide) ?_
                                  refine q_iload C dL_same_429 10 rfl ?_
                                  refine q_iconst C (nI 0) dL_same_431 (by decide) ?_
                                  refine q_iconst C (nI 0) dL_same_432 (by decide) ?_
                                  refine q_callWi C (As := [.ref (σ.2.1 0), .int (nI 4), .int (nI m9), .int (nI 0), .int (nI 0)]) (rest := []) (zM_noChainAt l σ V_12 G hlf z9 (k := m9) (by rw [z_best_boff hL, ← hB9]; exact hmB) (nI 0) (nI 0)) 5 gL_same_L_refused rfl rfl rfl (by decide +kernel) ⟨Nat.le_of_ble_eq_true rfl, Nat.le_of_ble_eq_true rfl⟩ dL_same_433 rfl (Nat.le_of_ble_eq_true rfl) ⟨by show _ ≤ 600; omega, by show _ ≤ 3600; omega⟩ (fun r_433 V_14 G_15 hq_433 => ?_)
                                  obtain ⟨rfl, hcf_433, rfl⟩ := hq_433
                                  refine q_iconst C (nI 1) dL_same_436 (by decide) ?_
                                  refine q_icmp_neN C 444 dL_same_437 (by decide) (by omega) (by omega) (fun c_437 => absurd c_437 (by omega)) (fun _ => ?_)
                                  refine q_iconst C (nI 1) dL_same_440 (by decide) ?_
                                  refine q_goto C 445 dL_same_441 (by decide) ?_
                                  refine hR _ _ _ _ _ _ _ ?_ (by first | rfl | decide) (by omega) (by omega) dL_same_445
                                  exact ⟨rfl, z_boff_tr hL hcf_433, rfl⟩
                              · skip
                                refine q_aload_n C dL_same_354 rfl 3 rfl ?_
                                refine q_iconst C (nI 2) dL_same_355 (by decide) ?_
                                refine q_iload C dL_same_356 0 rfl ?_
                                refine q_imulN C dL_same_358  ?_
                                refine q_ialdN C (k := 71) (n := 12) ⟨by decide, by decide, by decide⟩ (by omega) (by decide) dL_same_359 ?_
                                refine q_if_ge C 379 dL_same_360 (by decide) (fun c_360 => ?_) (fun c_360 => ?_)
                                · skip
                                  refine q_aload_n C dL_same_379 rfl 1 rfl ?_
                                  refine q_iload C dL_same_380 0 rfl ?_
                                  refine q_callVi C (As := [.int (nI k)]) (rest := []) (k := 0) (by omega) q_enBP rfl rfl (zM_owner l σ U G hlf u7 (k := k) (by omega) (Int32.not_lt.mpr c_360)) 1 gL_same_X2_owner rfl rfl rfl (by decide +kernel) ⟨Nat.le_of_ble_eq_true rfl, Nat.le_of_ble_eq_true rfl⟩ dL_same_382 rfl (Nat.le_of_ble_eq_true rfl) ⟨by show _ ≤ 600; omega, by show _ ≤ 3600; omega⟩ (fun r_382 V_16 G_17 hq_382 => ?_)
                                  obtain ⟨rfl, rfl, rfl⟩ := hq_382
                                  refine q_aload_n C dL_same_385 rfl 3 rfl ?_
                                  refine q_iconst C (nI 2) dL_same_386 (by decide) ?_
                                  refine q_iload C dL_same_387 0 rfl ?_
                                  refine q_imulN C dL_same_389  ?_
                                  refine q_iconst C (nI 1) dL_same_390 (by decide) ?_
                                  refine q_iaddN C dL_same_391  ?_
                                  refine q_ialdN C (k := 71) (n := 12) ⟨by decide, by decide, by decide⟩ (by omega) (by decide) dL_same_392 ?_
                                  refine q_icmp_eq C 398 dL_same_393 (by decide) (fun c_393 => ?_) (fun c_393 => absurd c_393 (by exact fun z => z rfl))
                                  refine q_iincN C [(10, .int (nI (k + 1))), (0, .ref (σ.2.1 0)), (1, .ref (σ.2.1 69)), (2, .ref (σ.2.1 71)), (3, .ref (σ.2.1 72)), (4, .ref (σ.2.1 73)), (5, .ref (σ.2.1 74)), (6, .ref (σ.2.1 19)), (7, .int al), (8, .int (nI rr)), (9, .int (nI m9))] dL_same_398 0 rfl (by decide) rfl ?_
                                  refine q_goto C 347 dL_same_401 (by decide) ?_
                                  refine q_sub (lv' := [(10, .int (nI (k + 1))), (0, .ref (σ.2.1 0)), (1, .ref (σ.2.1 69)), (2, .ref (σ.2.1 71)), (3, .ref (σ.2.1 72)), (4, .ref (σ.2.1 73)), (5, .ref (σ.2.1 74)), (6, .ref (σ.2.1 19)), (7, .int al), (8, .int (nI rr)), (9, .int (nI m9))]) [0, 1, 2, 3, 4, 5, 6, 7, 8, 9, 10] rfl ?_
                                  exact ihL_7 (k + 1) _ _ (by omega) (by omega) (by omega) (by omega)
                                · skip
                                  refine q_aload_n C dL_same_363 rfl 1 rfl ?_
                                  refine q_iconst C (nI 3) dL_same_364 (by decide) ?_
                                  refine q_iload C dL_same_365 0 rfl ?_
                                  refine q_iconst C (nI 0) dL_same_367 (by decide) ?_
                                  refine q_iconst C (nI 0) dL_same_368 (by decide) ?_
                                  refine q_callWi C (As := [.ref (σ.2.1 0), .int (nI 3), .int (nI k), .int (nI 0), .int (nI 0)]) (rest := []) (zM_noOwner l σ U G hlf u4.2.2.1 u7 (k := k) (by omega) (Int32.not_le.mp c_360) (nI 0) (nI 0)) 5 gL_same_L_refused rfl rfl rfl (by decide +kernel) ⟨Nat.le_of_ble_eq_true rfl, Nat.le_of_ble_eq_true rfl⟩ dL_same_369 rfl (Nat.le_of_ble_eq_true rfl) ⟨by show _ ≤ 600; omega, by show _ ≤ 3600; omega⟩ (fun r_369 V_18 G_19 hq_369 => ?_)
                                  obtain ⟨rfl, rfl, rfl⟩ := hq_369
                                  refine q_iconst C (nI 1) dL_same_372 (by decide) ?_
                                  refine q_icmp_eqN C 398 dL_same_373 (by decide) (by omega) (by omega) (fun _ => ?_) (fun c_373 => absurd c_373 (by omega))
                                  refine q_iincN C [(10, .int (nI (k + 1))), (0, .ref (σ.2.1 0)), (1, .ref (σ.2.1 69)), (2, .ref (σ.2.1 71)), (3, .ref (σ.2.1 72)), (4, .ref (σ.2.1 73)), (5, .ref (σ.2.1 74)), (6, .ref (σ.2.1 19)), (7, .int al), (8, .int (nI rr)), (9, .int (nI m9))] dL_same_398 0 rfl (by decide) rfl ?_
                                  refine q_goto C 347 dL_same_401 (by decide) ?_
                                  refine q_sub (lv' := [(10, .int (nI (k + 1))), (0, .ref (σ.2.1 0)), (1, .ref (σ.2.1 69)), (2, .ref (σ.2.1 71)), (3, .ref (σ.2.1 72)), (4, .ref (σ.2.1 73)), (5, .ref (σ.2.1 74)), (6, .ref (σ.2.1 19)), (7, .int al), (8, .int (nI rr)), (9, .int (nI m9))]) [0, 1, 2, 3, 4, 5, 6, 7, 8, 9, 10] rfl ?_
                                  exact ihL_7 (k + 1) _ _ (by omega) (by omega) (by omega) (by omega)
                          refine q_sub (lv' := [(10, .int (nI 0)), (0, .ref (σ.2.1 0)), (1, .ref (σ.2.1 69)), (2, .ref (σ.2.1 71)), (3, .ref (σ.2.1 72)), (4, .ref (σ.2.1 73)), (5, .ref (σ.2.1 74)), (6, .ref (σ.2.1 19)), (7, .int al), (8, .int (nI rr)), (9, .int (nI m9))]) [0, 1, 2, 3, 4, 5, 6, 7, 8, 9, 10] rfl ?_
                          exact L_7 _ 0 _ _ (Nat.zero_le _) (by omega) (by omega) (Nat.lt_succ_self _)
                        · skip
                          refine q_iconst C (nI 0) dL_same_247 (by decide) ?_
                          refine q_istore C [(11, .int (nI 0)), (10, .int (nI k)), (0, .ref (σ.2.1 0)), (1, .ref (σ.2.1 69)), (2, .ref (σ.2.1 71)), (3, .ref (σ.2.1 72)), (4, .ref (σ.2.1 73)), (5, .ref (σ.2.1 74)), (6, .ref (σ.2.1 19)), (7, .int al), (8, .int (nI rr)), (9, .int (nI m9))] dL_same_248 (by decide) rfl ?_
                          refine q_iconst C (nI 0) dL_same_250 (by decide) ?_
                          refine q_istore C [(12, .int (nI 0)), (11, .int (nI 0)), (10, .int (nI k)), (0, .ref (σ.2.1 0)), (1, .ref (σ.2.1 69)), (2, .ref (σ.2.1 71)), (3, .ref (σ.2.1 72)), (4, .ref (σ.2.1 73)), (5, .ref (σ.2.1 74)), (6, .ref (σ.2.1 19)), (7, .int al), (8, .int (nI rr)), (9, .int (nI m9))] dL_same_251 (by decide) rfl ?_
                          have L_20 : ∀ (nL_20 : Nat) (i rk : Nat) (hi : i ≤ 7) (hrk : rk = q_ct (fun i => G 19 k < G 19 i ∨ (G 19 i = G 19 k ∧ i < k)) i), 7 - i < nL_20 → q_W σ p l e rL_same s m args below meth c Q 13 cl4 sl4 U G [(11, .int (nI rk)), (12, .int (nI i)), (0, .ref (σ.2.1 0)), (1, .ref (σ.2.1 69)), (2, .ref (σ.2.1 71)), (3, .ref (σ.2.1 72)), (4, .ref (σ.2.1 73)), (5, .ref (σ.2.1 74)), (6, .ref (σ.2.1 19)), (7, .int al), (8, .int (nI rr)), (9, .int (nI m9)), (10, .int (nI k))] 253 [] := by
                            intro nL_20
                            induction nL_20 with
                            | zero => intro i rk hi hrk h; exact absurd h (Nat.not_lt_zero _)
                            | succ nL_20 ihL_20 =>
                              intro i rk hi hrk hmL_20
                              refine q_iload C dL_same_253 1 rfl ?_
                              refine q_bipush C (nI 7) dL_same_255 (by decide) ?_
                              refine q_icmp_geN C 311 dL_same_257 (by decide) (by omega) (by omega) (fun c_257 => ?_) (fun c_257 => ?_)
                              · skip
                                refine q_aload_n C dL_same_311 rfl 2 rfl ?_
                                refine q_iload C dL_same_312 12 rfl ?_
                                refine q_callVi C (As := [.int (nI k)]) (rest := []) (k := 0) (by omega) q_enBP rfl rfl (zM_credits l σ U G hlf u8 (k := k) (by omega)) 1 gL_same_X2_credits rfl rfl rfl (by decide +kernel) ⟨Nat.le_of_ble_eq_true rfl, Nat.le_of_ble_eq_true rfl⟩ dL_same_314 rfl (Nat.le_of_ble_eq_true rfl) ⟨by show _ ≤ 600; omega, by show _ ≤ 3600; omega⟩ (fun r_314 V_21 G_22 hq_314 => ?_)
                                obtain ⟨rfl, rfl, rfl⟩ := hq_314
                                refine q_aload C dL_same_317 7 rfl ?_
                                refine q_iload C dL_same_319 12 rfl ?_
                                refine q_ialdN C (k := 74) (n := 15) ⟨by decide, by decide, by decide⟩ (by omega) (by decide) dL_same_321 ?_
                                refine q_icmp_ne C 336 dL_same_322 (by decide) (fun c_322 => absurd c_322 (by exact fun z => z rfl)) (fun c_322 => ?_)
                                refine q_aload_n C dL_same_325 rfl 2 rfl ?_
                                refine q_iload C dL_same_326 0 rfl ?_
                                refine q_callVi C (As := [.int (nI rk)]) (rest := []) (k := 0) (by omega) q_enBP rfl rfl (zM_ranked l σ U G hlf u10 (k := k) (t := rk) (by omega) (by rw [hrk, show i = 7 by omega]; rfl)) 1 gL_same_X2_ranked rfl rfl rfl (by decide +kernel) ⟨Nat.le_of_ble_eq_true rfl, Nat.le_of_ble_eq_true rfl⟩ dL_same_328 rfl (Nat.le_of_ble_eq_true rfl) ⟨by show _ ≤ 600; omega, by show _ ≤ 3600; omega⟩ (fun r_328 V_23 G_24 hq_328 => ?_)
                                obtain ⟨rfl, rfl, rfl⟩ := hq_328
                                refine q_iload C dL_same_331 12 rfl ?_
                                refine q_icmp_eq C 338 dL_same_333 (by decide) (fun c_333 => ?_) (fun c_333 => absurd c_333 (by exact fun z => z rfl))
                                refine q_iincN C [(10, .int (nI (k + 1))), (11, .int (nI rk)), (12, .int (nI i)), (0, .ref (σ.2.1 0)), (1, .ref (σ.2.1 69)), (2, .ref (σ.2.1 71)), (3, .ref (σ.2.1 72)), (4, .ref (σ.2.1 73)), (5, .ref (σ.2.1 74)), (6, .ref (σ.2.1 19)), (7, .int al), (8, .int (nI rr)), (9, .int (nI m9))] dL_same_338 12 rfl (by decide) rfl ?_
                                refine q_goto C 240 dL_same_341 (by decide) ?_
                                refine q_sub (lv' := [(10, .int (nI (k + 1))), (0, .ref (σ.2.1 0)), (1, .ref (σ.2.1 69)), (2, .ref (σ.2.1 71)), (3, .ref (σ.2.1 72)), (4, .ref (σ.2.1 73)), (5, .ref (σ.2.1 74)), (6, .ref (σ.2.1 19)), (7, .int al), (8, .int (nI rr)), (9, .int (nI m9))]) [0, 3, 4, 5, 6, 7, 8, 9, 10, 11, 12] rfl ?_
                                exact ihL_6 (k + 1) _ _ (by omega) (by omega) (by omega) (by omega)
                              · skip
                                refine q_iload C dL_same_260 0 rfl ?_
                                refine q_aload C dL_same_262 8 rfl ?_
                                refine q_iload C dL_same_264 1 rfl ?_
                                refine q_laldN C (k := 19) (n := 7) ⟨by decide, by decide, by decide⟩ (by omega) (by decide) dL_same_266 ?_
                                refine q_aload C dL_same_267 8 rfl ?_
                                refine q_iload C dL_same_269 12 rfl ?_
                                refine q_laldN C (k := 19) (n := 7) ⟨by decide, by decide, by decide⟩ (by omega) (by decide) dL_same_271 ?_
                                refine q_lcmp C dL_same_272 ?_
                                refine q_if_gt C 297 dL_same_273 (by decide) (fun c_273 => ?_) (fun c_273 => ?_)
                                · skip
                                  refine q_iconst C (nI 1) dL_same_297 (by decide) ?_
                                  refine q_goto C 302 dL_same_298 (by decide) ?_
                                  refine q_iaddN C dL_same_302  ?_
                                  refine q_istore C [(11, .int (nI (rk + 1))), (12, .int (nI i)), (0, .ref (σ.2.1 0)), (1, .ref (σ.2.1 69)), (2, .ref (σ.2.1 71)), (3, .ref (σ.2.1 72)), (4, .ref (σ.2.1 73)), (5, .ref (σ.2.1 74)), (6, .ref (σ.2.1 19)), (7, .int al), (8, .int (nI rr)), (9, .int (nI m9)), (10, .int (nI k))] dL_same_303 (by decide) rfl ?_
                                  refine q_iincN C [(12, .int (nI (i + 1))), (11, .int (nI (rk + 1))), (0, .ref (σ.2.1 0)), (1, .ref (σ.2.1 69)), (2, .ref (σ.2.1 71)), (3, .ref (σ.2.1 72)), (4, .ref (σ.2.1 73)), (5, .ref (σ.2.1 74)), (6, .ref (σ.2.1 19)), (7, .int al), (8, .int (nI rr)), (9, .int (nI m9)), (10, .int (nI k))] dL_same_305 1 rfl (by decide) rfl ?_
                                  refine q_goto C 253 dL_same_308 (by decide) ?_
                                  refine q_sub (lv' := [(11, .int (nI (rk + 1))), (12, .int (nI (i + 1))), (0, .ref (σ.2.1 0)), (1, .ref (σ.2.1 69)), (2, .ref (σ.2.1 71)), (3, .ref (σ.2.1 72)), (4, .ref (σ.2.1 73)), (5, .ref (σ.2.1 74)), (6, .ref (σ.2.1 19)), (7, .int al), (8, .int (nI rr)), (9, .int (nI m9)), (10, .int (nI k))]) [1, 0, 2, 3, 4, 5, 6, 7, 8, 9, 10, 11, 12] rfl ?_
                                  exact ihL_20 (i + 1) _ (by omega) (by first | (rw [hrk]; exact (q_ct_y (p := (fun i => G 19 k < G 19 i ∨ (G 19 i = G 19 k ∧ i < k))) (Or.inl ((lg_cmp_gt _ _).mp c_273))).symm) | (rw [hrk]; exact (q_ct_y (p := (fun i => G 19 k < G 19 i ∨ (G 19 i = G 19 k ∧ i < k))) (Or.inr ⟨(lg_cmp_eq _ _).mp c_287, c_294⟩)).symm) | exact hrk.trans (q_ct_n (p := (fun i => G 19 k < G 19 i ∨ (G 19 i = G 19 k ∧ i < k))) (fun z => z.elim (fun q => c_273 ((lg_cmp_gt _ _).mpr q)) (fun q => c_287 ((lg_cmp_eq _ _).mpr q.1)))).symm | exact hrk.trans (q_ct_n (p := (fun i => G 19 k < G 19 i ∨ (G 19 i = G 19 k ∧ i < k))) (fun z => z.elim (fun q => c_273 ((lg_cmp_gt _ _).mpr q)) (fun q => Nat.not_lt.mpr c_294 q.2))).symm) (by omega)
                                · skip
                                  refine q_aload C dL_same_276 8 rfl ?_
                                  refine q_iload C dL_same_278 1 rfl ?_
                                  refine q_laldN C (k := 19) (n := 7) ⟨by decide, by decide, by decide⟩ (by omega) (by decide) dL_same_280 ?_
                                  refine q_aload C dL_same_281 8 rfl ?_
                                  refine q_iload C dL_same_283 12 rfl ?_
                                  refine q_laldN C (k := 19) (n := 7) ⟨by decide, by decide, by decide⟩ (by omega) (by decide) dL_same_285 ?_
                                  refine q_lcmp C dL_same_286 ?_
                                  refine q_if_ne C 301 dL_same_287 (by decide) (fun c_287 => ?_) (fun c_287 => ?_)
                                  · skip
                                    refine q_iconst C (nI 0) dL_same_301 (by decide) ?_
                                    refine q_iaddN C dL_same_302  ?_
                                    refine q_istore C [(11, .int (nI (rk + 0))), (12, .int (nI i)), (0, .ref (σ.2.1 0)), (1, .ref (σ.2.1 69)), (2, .ref (σ.2.1 71)), (3, .ref (σ.2.1 72)), (4, .ref (σ.2.1 73)), (5, .ref (σ.2.1 74)), (6, .ref (σ.2.1 19)), (7, .int al), (8, .int (nI rr)), (9, .int (nI m9)), (10, .int (nI k))] dL_same_303 (by decide) rfl ?_
                                    refine q_iincN C [(12, .int (nI (i + 1))), (11, .int (nI (rk + 0))), (0, .ref (σ.2.1 0)), (1, .ref (σ.2.1 69)), (2, .ref (σ.2.1 71)), (3, .ref (σ.2.1 72)), (4, .ref (σ.2.1 73)), (5, .ref (σ.2.1 74)), (6, .ref (σ.2.1 19)), (7, .int al), (8, .int (nI rr)), (9, .int (nI m9)), (10, .int (nI k))] dL_same_305 1 rfl (by decide) rfl ?_
                                    refine q_goto C 253 dL_same_308 (by decide) ?_
                                    refine q_sub (lv' := [(11, .int (nI (rk + 0))), (12, .int (nI (i + 1))), (0, .ref (σ.2.1 0)), (1, .ref (σ.2.1 69)), (2, .ref (σ.2.1 71)), (3, .ref (σ.2.1 72)), (4, .ref (σ.2.1 73)), (5, .ref (σ.2.1 74)), (6, .ref (σ.2.1 19)), (7, .int al), (8, .int (nI rr)), (9, .int (nI m9)), (10, .int (nI k))]) [1, 0, 2, 3, 4, 5, 6, 7, 8, 9, 10, 11, 12] rfl ?_
                                    exact ihL_20 (i + 1) _ (by omega) (by first | (rw [hrk]; exact (q_ct_y (p := (fun i => G 19 k < G 19 i ∨ (G 19 i = G 19 k ∧ i < k))) (Or.inl ((lg_cmp_gt _ _).mp c_273))).symm) | (rw [hrk]; exact (q_ct_y (p := (fun i => G 19 k < G 19 i ∨ (G 19 i = G 19 k ∧ i < k))) (Or.inr ⟨(lg_cmp_eq _ _).mp c_287, c_294⟩)).symm) | exact hrk.trans (q_ct_n (p := (fun i => G 19 k < G 19 i ∨ (G 19 i = G 19 k ∧ i < k))) (fun z => z.elim (fun q => c_273 ((lg_cmp_gt _ _).mpr q)) (fun q => c_287 ((lg_cmp_eq _ _).mpr q.1)))).symm | exact hrk.trans (q_ct_n (p := (fun i => G 19 k < G 19 i ∨ (G 19 i = G 19 k ∧ i < k))) (fun z => z.elim (fun q => c_273 ((lg_cmp_gt _ _).mpr q)) (fun q => Nat.not_lt.mpr c_294 q.2))).symm) (by omega)
                                  · skip
                                    refine q_iload C dL_same_290 1 rfl ?_
                                    refine q_iload C dL_same_292 12 rfl ?_
                                    refine q_icmp_geN C 301 dL_same_294 (by decide) (by omega) (by omega) (fun c_294 => ?_) (fun c_294 => ?_)
                                    · skip
                                      refine q_iconst C (nI 0) dL_same_301 (by decide) ?_
                                      refine q_iaddN C dL_same_302  ?_
                                      refine q_istore C [(11, .int (nI (rk + 0))), (12, .int (nI i)), (0, .ref (σ.2.1 0)), (1, .ref (σ.2.1 69)), (2, .ref (σ.2.1 71)), (3, .ref (σ.2.1 72)), (4, .ref (σ.2.1 73)), (5, .ref (σ.2.1 74)), (6, .ref (σ.2.1 19)), (7, .int al), (8, .int (nI rr)), (9, .int (nI m9)), (10, .int (nI k))] dL_same_303 (by decide) rfl ?_
                                      refine q_iincN C [(12, .int (nI (i + 1))), (11, .int (nI (rk + 0))), (0, .ref (σ.2.1 0)), (1, .ref (σ.2.1 69)), (2, .ref (σ.2.1 71)), (3, .ref (σ.2.1 72)), (4, .ref (σ.2.1 73)), (5, .ref (σ.2.1 74)), (6, .ref (σ.2.1 19)), (7, .int al), (8, .int (nI rr)), (9, .int (nI m9)), (10, .int (nI k))] dL_same_305 1 rfl (by decide) rfl ?_
                                      refine q_goto C 253 dL_same_308 (by decide) ?_
                                      refine q_sub (lv' := [(11, .int (nI (rk + 0))), (12, .int (nI (i + 1))), (0, .ref (σ.2.1 0)), (1, .ref (σ.2.1 69)), (2, .ref (σ.2.1 71)), (3, .ref (σ.2.1 72)), (4, .ref (σ.2.1 73)), (5, .ref (σ.2.1 74)), (6, .ref (σ.2.1 19)), (7, .int al), (8, .int (nI rr)), (9, .int (nI m9)), (10, .int (nI k))]) [1, 0, 2, 3, 4, 5, 6, 7, 8, 9, 10, 11, 12] rfl ?_
                                      exact ihL_20 (i + 1) _ (by omega) (by first | (rw [hrk]; exact (q_ct_y (p := (fun i => G 19 k < G 19 i ∨ (G 19 i = G 19 k ∧ i < k))) (Or.inl ((lg_cmp_gt _ _).mp c_273))).symm) | (rw [hrk]; exact (q_ct_y (p := (fun i => G 19 k < G 19 i ∨ (G 19 i = G 19 k ∧ i < k))) (Or.inr ⟨(lg_cmp_eq _ _).mp c_287, c_294⟩)).symm) | exact hrk.trans (q_ct_n (p := (fun i => G 19 k < G 19 i ∨ (G 19 i = G 19 k ∧ i < k))) (fun z => z.elim (fun q => c_273 ((lg_cmp_gt _ _).mpr q)) (fun q => c_287 ((lg_cmp_eq _ _).mpr q.1)))).symm | exact hrk.trans (q_ct_n (p := (fun i => G 19 k < G 19 i ∨ (G 19 i = G 19 k ∧ i < k))) (fun z => z.elim (fun q => c_273 ((lg_cmp_gt _ _).mpr q)) (fun q => Nat.not_lt.mpr c_294 q.2))).symm) (by omega)
                                    · skip
                                      refine q_iconst C (nI 1) dL_same_297 (by decide) ?_
                                      refine q_goto C 302 dL_same_298 (by decide) ?_
                                      refine q_iaddN C dL_same_302  ?_
                                      refine q_istore C [(11, .int (nI (rk + 1))), (12, .int (nI i)), (0, .ref (σ.2.1 0)), (1, .ref (σ.2.1 69)), (2, .ref (σ.2.1 71)), (3, .ref (σ.2.1 72)), (4, .ref (σ.2.1 73)), (5, .ref (σ.2.1 74)), (6, .ref (σ.2.1 19)), (7, .int al), (8, .int (nI rr)), (9, .int (nI m9)), (10, .int (nI k))] dL_same_303 (by decide) rfl ?_
                                      refine q_iincN C [(12, .int (nI (i + 1))), (11, .int (nI (rk + 1))), (0, .ref (σ.2.1 0)), (1, .ref (σ.2.1 69)), (2, .ref (σ.2.1 71)), (3, .ref (σ.2.1 72)), (4, .ref (σ.2.1 73)), (5, .ref (σ.2.1 74)), (6, .ref (σ.2.1 19)), (7, .int al), (8, .int (nI rr)), (9, .int (nI m9)), (10, .int (nI k))] dL_same_305 1 rfl (by decide) rfl ?_
                                      refine q_goto C 253 dL_same_308 (by decide) ?_
                                      refine q_sub (lv' := [(11, .int (nI (rk + 1))), (12, .int (nI (i + 1))), (0, .ref (σ.2.1 0)), (1, .ref (σ.2.1 69)), (2, .ref (σ.2.1 71)), (3, .ref (σ.2.1 72)), (4, .ref (σ.2.1 73)), (5, .ref (σ.2.1 74)), (6, .ref (σ.2.1 19)), (7, .int al), (8, .int (nI rr)), (9, .int (nI m9)), (10, .int (nI k))]) [1, 0, 2, 3, 4, 5, 6, 7, 8, 9, 10, 11, 12] rfl ?_
                                      exact ihL_20 (i + 1) _ (by omega) (by first | (rw [hrk]; exact (q_ct_y (p := (fun i => G 19 k < G 19 i ∨ (G 19 i = G 19 k ∧ i < k))) (Or.inl ((lg_cmp_gt _ _).mp c_273))).symm) | (rw [hrk]; exact (q_ct_y (p := (fun i => G 19 k < G 19 i ∨ (G 19 i = G 19 k ∧ i < k))) (Or.inr ⟨(lg_cmp_eq _ _).mp c_287, c_294⟩)).symm) | exact hrk.trans (q_ct_n (p := (fun i => G 19 k < G 19 i ∨ (G 19 i = G 19 k ∧ i < k))) (fun z => z.elim (fun q => c_273 ((lg_cmp_gt _ _).mpr q)) (fun q => c_287 ((lg_cmp_eq _ _).mpr q.1)))).symm | exact hrk.trans (q_ct_n (p := (fun i => G 19 k < G 19 i ∨ (G 19 i = G 19 k ∧ i < k))) (fun z => z.elim (fun q => c_273 ((lg_cmp_gt _ _).mpr q)) (fun q => Nat.not_lt.mpr c_294 q.2))).symm) (by omega)
                          refine q_sub (lv' := [(11, .int (nI 0)), (12, .int (nI 0)), (0, .ref (σ.2.1 0)), (1, .ref (σ.2.1 69)), (2, .ref (σ.2.1 71)), (3, .ref (σ.2.1 72)), (4, .ref (σ.2.1 73)), (5, .ref (σ.2.1 74)), (6, .ref (σ.2.1 19)), (7, .int al), (8, .int (nI rr)), (9, .int (nI m9)), (10, .int (nI k))]) [1, 0, 3, 4, 5, 6, 7, 8, 9, 10, 11, 12, 2] rfl ?_
                          exact L_20 _ 0 0 (Nat.zero_le _) rfl (Nat.lt_succ_self _)
                    refine q_sub (lv' := [(10, .int (nI 0)), (0, .ref (σ.2.1 0)), (1, .ref (σ.2.1 69)), (2, .ref (σ.2.1 71)), (3, .ref (σ.2.1 72)), (4, .ref (σ.2.1 73)), (5, .ref (σ.2.1 74)), (6, .ref (σ.2.1 19)), (7, .int al), (8, .int (nI rr)), (9, .int (nI m9))]) [0, 1, 2, 3, 4, 5, 6, 7, 8, 9, 10] rfl ?_
                    exact L_6 _ 0 _ _ (Nat.zero_le _) (by omega) (by omega) (Nat.lt_succ_self _)
                  · skip
                    refine q_aload_n C dL_same_76 rfl 4 rfl ?_
                    refine q_bipush C (nI 56) dL_same_77 (by decide) ?_
                    refine q_iload C dL_same_79 0 rfl ?_
                    refine q_iaddN C dL_same_81  ?_
                    refine q_ialdN C (k := 72) (n := 64) ⟨by decide, by decide, by decide⟩ (by omega) (by decide) dL_same_82 ?_
                    refine q_stk (st' := [.int (q_chs2 U c9 0)]) (congrArg (fun z => Value.int z :: []) ((u2 c9 (by omega)).1)) ?_
                    refine q_istore C [(11, .int (q_chs2 U c9 0)), (10, .int (nI c9)), (0, .ref (σ.2.1 0)), (1, .ref (σ.2.1 69)), (2, .ref (σ.2.1 71)), (3, .ref (σ.2.1 72)), (4, .ref (σ.2.1 73)), (5, .ref (σ.2.1 74)), (6, .ref (σ.2.1 19)), (7, .int al), (8, .int (nI rr)), (9, .int (nI m9))] dL_same_83 (by decide) rfl ?_
                    refine q_iconst C (nI 0) dL_same_85 (by decide) ?_
                    refine q_istore C [(12, .int (nI 0)), (11, .int (q_chs2 U c9 0)), (10, .int (nI c9)), (0, .ref (σ.2.1 0)), (1, .ref (σ.2.1 69)), (2, .ref (σ.2.1 71)), (3, .ref (σ.2.1 72)), (4, .ref (σ.2.1 73)), (5, .ref (σ.2.1 74)), (6, .ref (σ.2.1 19)), (7, .int al), (8, .int (nI rr)), (9, .int (nI m9))] dL_same_86 (by decide) rfl ?_
                    have L_25 : ∀ (nL_25 : Nat) (k cl3 sl3 : Nat) (hk : k ≤ 7) (hcl3 : cl3 ≤ 42 + 54 * c9 + 6 * k) (hsl3 : sl3 ≤ 252 + 324 * c9 + 36 * k), 7 - k < nL_25 → q_W σ p l e rL_same s m args below meth c Q 13 cl3 sl3 U G [(11, .int (q_chs2 U c9 k)), (12, .int (nI k)), (0, .ref (σ.2.1 0)), (1, .ref (σ.2.1 69)), (2, .ref (σ.2.1 71)), (3, .ref (σ.2.1 72)), (4, .ref (σ.2.1 73)), (5, .ref (σ.2.1 74)), (6, .ref (σ.2.1 19)), (7, .int al), (8, .int (nI rr)), (9, .int (nI m9)), (10, .int (nI c9))] 88 [] := by
                      intro nL_25
                      induction nL_25 with
                      | zero => intro k cl3 sl3 hk hcl3 hsl3 h; exact absurd h (Nat.not_lt_zero _)
                      | succ nL_25 ihL_25 =>
                        intro k cl3 sl3 hk hcl3 hsl3 hmL_25
                        refine q_iload C dL_same_88 1 rfl ?_
                        refine q_bipush C (nI 7) dL_same_90 (by decide) ?_
                        refine q_icmp_geN C 139 dL_same_92 (by decide) (by omega) (by omega) (fun c_92 => ?_) (fun c_92 => ?_)
                        · skip
                          refine q_lve (lv' := [(11, .int (q_cbs U c9 0)), (12, .int (nI k)), (0, .ref (σ.2.1 0)), (1, .ref (σ.2.1 69)), (2, .ref (σ.2.1 71)), (3, .ref (σ.2.1 72)), (4, .ref (σ.2.1 73)), (5, .ref (σ.2.1 74)), (6, .ref (σ.2.1 19)), (7, .int al), (8, .int (nI rr)), (9, .int (nI m9)), (10, .int (nI c9))]) (by rw [show k = 7 by omega] <;> rfl) ?_
                          refine q_iconst C (nI 0) dL_same_139 (by decide) ?_
                          refine q_istore C [(12, .int (nI 0)), (11, .int (q_cbs U c9 0)), (0, .ref (σ.2.1 0)), (1, .ref (σ.2.1 69)), (2, .ref (σ.2.1 71)), (3, .ref (σ.2.1 72)), (4, .ref (σ.2.1 73)), (5, .ref (σ.2.1 74)), (6, .ref (σ.2.1 19)), (7, .int al), (8, .int (nI rr)), (9, .int (nI m9)), (10, .int (nI c9))] dL_same_140 (by decide) rfl ?_
                          have L_26 : ∀ (nL_26 : Nat) (k : Nat) (hk : k ≤ 6), 6 - k < nL_26 → q_W σ p l e rL_same s m args below meth c Q 13 cl3 sl3 U G [(11, .int (q_cbs U c9 k)), (12, .int (nI k)), (0, .ref (σ.2.1 0)), (1, .ref (σ.2.1 69)), (2, .ref (σ.2.1 71)), (3, .ref (σ.2.1 72)), (4, .ref (σ.2.1 73)), (5, .ref (σ.2.1 74)), (6, .ref (σ.2.1 19)), (7, .int al), (8, .int (nI rr)), (9, .int (nI m9)), (10, .int (nI c9))] 142 [] := by
                            intro nL_26
                            induction nL_26 with
                            | zero => intro k hk h; exact absurd h (Nat.not_lt_zero _)
                            | succ nL_26 ihL_26 =>
                              intro k hk hmL_26
                              refine q_iload C dL_same_142 1 rfl ?_
                              refine q_bipush C (nI 6) dL_same_144 (by decide) ?_
                              refine q_icmp_geN C 188 dL_same_146 (by decide) (by omega) (by omega) (fun c_146 => ?_) (fun c_146 => ?_)
                              · skip
                                refine q_aload_n C dL_same_188 rfl 2 rfl ?_
                                refine q_iload C dL_same_189 12 rfl ?_
                                refine q_callVi C (As := [.int (nI c9)]) (rest := []) (k := 0) (by omega) q_enBP rfl rfl (zM_beads l σ U G hlf u4 u7 (col := c9) (by omega)) 1 gL_same_X2_beads rfl rfl rfl (by decide +kernel) ⟨Nat.le_of_ble_eq_true rfl, Nat.le_of_ble_eq_true rfl⟩ dL_same_191 rfl (Nat.le_of_ble_eq_true rfl) ⟨by show _ ≤ 600; omega, by show _ ≤ 3600; omega⟩ (fun r_191 V_27 G_28 hq_191 => ?_)
                                obtain ⟨rfl, rfl, rfl⟩ := hq_191
                                refine q_iload C dL_same_194 0 rfl ?_
                                refine q_icmp_ne C 229 dL_same_196 (by decide) (fun c_196 => absurd c_196 (by exact fun z => z (by rw [show k = 6 by omega]; exact z_cbs6 u7 c9))) (fun c_196 => ?_)
                                refine q_aload_n C dL_same_199 rfl 2 rfl ?_
                                refine q_iload C dL_same_200 12 rfl ?_
                                refine q_callVi C (As := [.int (nI c9)]) (rest := []) (k := 0) (by omega) q_enBP rfl rfl (zM_brought l σ U G hlf u2 (col := c9) (by omega)) 1 gL_same_X2_brought rfl rfl rfl (by decide +kernel) ⟨Nat.le_of_ble_eq_true rfl, Nat.le_of_ble_eq_true rfl⟩ dL_same_202 rfl (Nat.le_of_ble_eq_true rfl) ⟨by show _ ≤ 600; omega, by show _ ≤ 3600; omega⟩ (fun r_202 V_29 G_30 hq_202 => ?_)
                                obtain ⟨rfl, rfl, rfl⟩ := hq_202
                                refine q_aload C dL_same_205 7 rfl ?_
                                refine q_bipush C (nI 7) dL_same_207 (by decide) ?_
                                refine q_iload C dL_same_209 12 rfl ?_
                                refine q_iaddN C dL_same_211  ?_
                                refine q_ialdN C (k := 74) (n := 15) ⟨by decide, by decide, by decide⟩ (by omega) (by decide) dL_same_212 ?_
                                refine q_icmp_ne C 229 dL_same_213 (by decide) (fun c_213 => absurd c_213 (by exact fun z => z rfl)) (fun c_213 => ?_)
                                refine q_iload C dL_same_216 0 rfl ?_
                                refine q_aload C dL_same_218 7 rfl ?_
                                refine q_bipush C (nI 7) dL_same_220 (by decide) ?_
                                refine q_iload C dL_same_222 12 rfl ?_
                                refine q_iaddN C dL_same_224  ?_
                                refine q_ialdN C (k := 74) (n := 15) ⟨by decide, by decide, by decide⟩ (by omega) (by decide) dL_same_225 ?_
                                refine q_icmp_eq C 231 dL_same_226 (by decide) (fun c_226 => ?_) (fun c_226 => absurd c_226 (by exact fun z => z (by rw [show k = 6 by omega, ← z_cbs6 u7 c9]; exact (u2 c9 (by omega)).2.2.2.trans (u2 c9 (by omega)).2.2.1.symm)))
                                refine q_iincN C [(10, .int (nI (c9 + 1))), (11, .int (q_cbs U c9 k)), (12, .int (nI k)), (0, .ref (σ.2.1 0)), (1, .ref (σ.2.1 69)), (2, .ref (σ.2.1 71)), (3, .ref (σ.2.1 72)), (4, .ref (σ.2.1 73)), (5, .ref (σ.2.1 74)), (6, .ref (σ.2.1 19)), (7, .int al), (8, .int (nI rr)), (9, .int (nI m9))] dL_same_231 12 rfl (by decide) rfl ?_
                                refine q_goto C 69 dL_same_234 (by decide) ?_
                                refine q_sub (lv' := [(10, .int (nI (c9 + 1))), (0, .ref (σ.2.1 0)), (1, .ref (σ.2.1 69)), (2, .ref (σ.2.1 71)), (3, .ref (σ.2.1 72)), (4, .ref (σ.2.1 73)), (5, .ref (σ.2.1 74)), (6, .ref (σ.2.1 19)), (7, .int al), (8, .int (nI rr)), (9, .int (nI m9))]) [0, 3, 4, 5, 6, 7, 8, 9, 10, 11, 12] rfl ?_
                                exact ihL_5 (c9 + 1) _ _ (by omega) (by omega) (by omega) (by omega)
                              · skip
                                refine q_iload C dL_same_149 0 rfl ?_
                                have J_31 : ∀ (x9 : Int32) (hx9 : x9 = q_cbelt U k (nI c9)), q_W σ p l e rL_same s m args below meth c Q 13 cl3 sl3 U G [(0, .ref (σ.2.1 0)), (1, .ref (σ.2.1 69)), (2, .ref (σ.2.1 71)), (3, .ref (σ.2.1 72)), (4, .ref (σ.2.1 73)), (5, .ref (σ.2.1 74)), (6, .ref (σ.2.1 19)), (7, .int al), (8, .int (nI rr)), (9, .int (nI m9)), (10, .int (nI c9)), (11, .int (q_cbs U c9 k)), (12, .int (nI k))] 179 [.int x9, .int (q_cbs U c9 k)] := by
                                  intro x9 hx9
                                  refine q_iadd C dL_same_179 ?_
                                  refine q_stk (st' := [.int (q_cbs U c9 (k + 1))]) (congrArg (fun z => Value.int z :: []) (congrArg (q_cbs U c9 k + ·) hx9)) ?_
                                  refine q_istore C [(11, .int (q_cbs U c9 (k + 1))), (0, .ref (σ.2.1 0)), (1, .ref (σ.2.1 69)), (2, .ref (σ.2.1 71)), (3, .ref (σ.2.1 72)), (4, .ref (σ.2.1 73)), (5, .ref (σ.2.1 74)), (6, .ref (σ.2.1 19)), (7, .int al), (8, .int (nI rr)), (9, .int (nI m9)), (10, .int (nI c9)), (12, .int (nI k))] dL_same_180 (by decide) rfl ?_
                                  refine q_iincN C [(12, .int (nI (k + 1))), (11, .int (q_cbs U c9 (k + 1))), (0, .ref (σ.2.1 0)), (1, .ref (σ.2.1 69)), (2, .ref (σ.2.1 71)), (3, .ref (σ.2.1 72)), (4, .ref (σ.2.1 73)), (5, .ref (σ.2.1 74)), (6, .ref (σ.2.1 19)), (7, .int al), (8, .int (nI rr)), (9, .int (nI m9)), (10, .int (nI c9))] dL_same_182 12 rfl (by decide) rfl ?_
                                  refine q_goto C 142 dL_same_185 (by decide) ?_
                                  refine q_sub (lv' := [(11, .int (q_cbs U c9 (k + 1))), (12, .int (nI (k + 1))), (0, .ref (σ.2.1 0)), (1, .ref (σ.2.1 69)), (2, .ref (σ.2.1 71)), (3, .ref (σ.2.1 72)), (4, .ref (σ.2.1 73)), (5, .ref (σ.2.1 74)), (6, .ref (σ.2.1 19)), (7, .int al), (8, .int (nI rr)), (9, .int (nI m9)), (10, .int (nI c9))]) [1, 0, 2, 3, 4, 5, 6, 7, 8, 9, 10, 11, 12] rfl ?_
                                  exact ihL_26 (k + 1) (by omega) (by omega)
                                refine q_aload_n C dL_same_151 rfl 4 rfl ?_
                                refine q_iconst C (nI 2) dL_same_152 (by decide) ?_
                                refine q_iload C dL_same_153 1 rfl ?_
                                refine q_imulN C dL_same_155  ?_
                                refine q_ialdN C (k := 71) (n := 12) ⟨by decide, by decide, by decide⟩ (by omega) (by decide) dL_same_156 ?_
                                refine q_if_ge C 164 dL_same_157 (by decide) (fun c_157 => ?_) (fun c_157 => ?_)
                                · skip
                                  obtain ⟨pa, hpa, hpe⟩ := z_bp u7 (show k < 6 by omega) c_157
                                  refine q_aload_n C dL_same_164 rfl 3 rfl ?_
                                  refine q_iconst C (nI 3) dL_same_165 (by decide) ?_
                                  refine q_aload_n C dL_same_166 rfl 4 rfl ?_
                                  refine q_iconst C (nI 2) dL_same_167 (by decide) ?_
                                  refine q_iload C dL_same_168 1 rfl ?_
                                  refine q_imulN C dL_same_170  ?_
                                  refine q_ialdN C (k := 71) (n := 12) ⟨by decide, by decide, by decide⟩ (by omega) (by decide) dL_same_171 ?_
                                  refine q_stk (st' := [.int (nI pa), .int (nI 3), .ref (σ.2.1 69), .int (q_cbs U c9 k)]) (congrArg (fun z => Value.int z :: [.int (nI 3), .ref (σ.2.1 69), .int (q_cbs U c9 k)]) (hpe.1)) ?_
                                  refine q_imulN C dL_same_172  ?_
                                  refine q_ialdN C (k := 69) (n := 18) ⟨by decide, by decide, by decide⟩ (by omega) (by decide) dL_same_173 ?_
                                  refine q_stk (st' := [.int (nI (gp pa)), .int (q_cbs U c9 k)]) (congrArg (fun z => Value.int z :: [.int (q_cbs U c9 k)]) ((u4.2.2.2 pa hpa).1)) ?_
                                  refine q_iload C dL_same_174 12 rfl ?_
                                  refine q_callSi C (As := [.int (nI (gp pa)), .int (nI c9)]) (rest := [.int (q_cbs U c9 k)]) (kL_needs l σ U G (g := gp pa) (u4.2.2.2 pa hpa).2.1 (col := c9) (by omega)) 2 gL_same_L_needs rfl rfl rfl (by decide +kernel) ⟨Nat.le_of_ble_eq_true rfl, Nat.le_of_ble_eq_true rfl⟩ dL_same_176 rfl (Nat.le_of_ble_eq_true rfl) ⟨by show _ ≤ 600; omega, by show _ ≤ 3600; omega⟩ (fun r_176 V_32 G_33 hq_176 => ?_)
                                  obtain ⟨rfl, rfl, rfl⟩ := hq_176
                                  refine q_sub (lv' := [(0, .ref (σ.2.1 0)), (1, .ref (σ.2.1 69)), (2, .ref (σ.2.1 71)), (3, .ref (σ.2.1 72)), (4, .ref (σ.2.1 73)), (5, .ref (σ.2.1 74)), (6, .ref (σ.2.1 19)), (7, .int al), (8, .int (nI rr)), (9, .int (nI m9)), (10, .int (nI c9)), (11, .int (q_cbs U c9 k)), (12, .int (nI k))]) [2, 3, 4, 5, 6, 7, 8, 9, 10, 11, 12, 0, 1] rfl ?_
                                  exact J_31 _ ((q_cbelt_y (by rw [hpe.2]; exact q_nI_ne1 (by omega)) hpe.2 (by omega)).trans (congrArg nI (zc_needs u4 hpa (by omega)))).symm
                                · skip
                                  have hbn := z_bn hn6 u7 (show k < 6 by omega) c_157
                                  refine q_iconst C (nI 0) dL_same_160 (by decide) ?_
                                  refine q_goto C 179 dL_same_161 (by decide) ?_
                                  refine q_sub (lv' := [(0, .ref (σ.2.1 0)), (1, .ref (σ.2.1 69)), (2, .ref (σ.2.1 71)), (3, .ref (σ.2.1 72)), (4, .ref (σ.2.1 73)), (5, .ref (σ.2.1 74)), (6, .ref (σ.2.1 19)), (7, .int al), (8, .int (nI rr)), (9, .int (nI m9)), (10, .int (nI c9)), (11, .int (q_cbs U c9 k)), (12, .int (nI k))]) [2, 3, 4, 5, 6, 7, 8, 9, 10, 11, 12, 0, 1] rfl ?_
                                  exact J_31 _ (q_cbelt_n hbn).symm
                          refine q_sub (lv' := [(11, .int (q_cbs U c9 0)), (12, .int (nI 0)), (0, .ref (σ.2.1 0)), (1, .ref (σ.2.1 69)), (2, .ref (σ.2.1 71)), (3, .ref (σ.2.1 72)), (4, .ref (σ.2.1 73)), (5, .ref (σ.2.1 74)), (6, .ref (σ.2.1 19)), (7, .int al), (8, .int (nI rr)), (9, .int (nI m9)), (10, .int (nI c9))]) [1, 0, 2, 3, 4, 5, 6, 7, 8, 9, 10, 11, 12] rfl ?_
                          exact L_26 _ 0 (Nat.zero_le _) (Nat.lt_succ_self _)
                        · skip
                          refine q_iload C dL_same_95 0 rfl ?_
                          refine q_aload_n C dL_same_97 rfl 5 rfl ?_
                          refine q_bipush C (nI 8) dL_same_98 (by decide) ?_
                          refine q_iload C dL_same_100 1 rfl ?_
                          refine q_imulN C dL_same_102  ?_
                          refine q_iload C dL_same_103 12 rfl ?_
                          refine q_iaddN C dL_same_105  ?_
                          refine q_ialdN C (k := 72) (n := 64) ⟨by decide, by decide, by decide⟩ (by omega) (by decide) dL_same_106 ?_
                          refine q_iadd C dL_same_107 ?_
                          refine q_stk (st' := [.int (q_chs2 U c9 (k + 1))]) (congrArg (fun z => Value.int z :: []) (congrArg (q_chs2 U c9 k + ·) (u1 k c9 (by omega) (by omega)).1)) ?_
                          refine q_istore C [(11, .int (q_chs2 U c9 (k + 1))), (12, .int (nI k)), (0, .ref (σ.2.1 0)), (1, .ref (σ.2.1 69)), (2, .ref (σ.2.1 71)), (3, .ref (σ.2.1 72)), (4, .ref (σ.2.1 73)), (5, .ref (σ.2.1 74)), (6, .ref (σ.2.1 19)), (7, .int al), (8, .int (nI rr)), (9, .int (nI m9)), (10, .int (nI c9))] dL_same_108 (by decide) rfl ?_
                          refine q_aload_n C dL_same_110 rfl 2 rfl ?_
                          refine q_iload C dL_same_111 1 rfl ?_
                          refine q_iload C dL_same_113 12 rfl ?_
                          refine q_callVi C (As := [.int (nI k), .int (nI c9)]) (rest := []) (k := 0) (by omega) q_enBP rfl rfl (zM_hand l σ U G hlf u1 (k := k) (col := c9) (by omega) (by omega)) 2 gL_same_X2_hand rfl rfl rfl (by decide +kernel) ⟨Nat.le_of_ble_eq_true rfl, Nat.le_of_ble_eq_true rfl⟩ dL_same_115 rfl (Nat.le_of_ble_eq_true rfl) ⟨by show _ ≤ 600; omega, by show _ ≤ 3600; omega⟩ (fun r_115 V_34 G_35 hq_115 => ?_)
                          obtain ⟨rfl, rfl, rfl⟩ := hq_115
                          refine q_aload_n C dL_same_118 rfl 5 rfl ?_
                          refine q_bipush C (nI 8) dL_same_119 (by decide) ?_
                          refine q_iload C dL_same_121 1 rfl ?_
                          refine q_imulN C dL_same_123  ?_
                          refine q_iload C dL_same_124 12 rfl ?_
                          refine q_iaddN C dL_same_126  ?_
                          refine q_ialdN C (k := 72) (n := 64) ⟨by decide, by decide, by decide⟩ (by omega) (by decide) dL_same_127 ?_
                          refine q_icmp_eq C 133 dL_same_128 (by decide) (fun c_128 => ?_) (fun c_128 => absurd c_128 (by exact fun z => z rfl))
                          refine q_iincN C [(12, .int (nI (k + 1))), (11, .int (q_chs2 U c9 (k + 1))), (0, .ref (σ.2.1 0)), (1, .ref (σ.2.1 69)), (2, .ref (σ.2.1 71)), (3, .ref (σ.2.1 72)), (4, .ref (σ.2.1 73)), (5, .ref (σ.2.1 74)), (6, .ref (σ.2.1 19)), (7, .int al), (8, .int (nI rr)), (9, .int (nI m9)), (10, .int (nI c9))] dL_same_133 1 rfl (by decide) rfl ?_
                          refine q_goto C 88 dL_same_136 (by decide) ?_
                          refine q_sub (lv' := [(11, .int (q_chs2 U c9 (k + 1))), (12, .int (nI (k + 1))), (0, .ref (σ.2.1 0)), (1, .ref (σ.2.1 69)), (2, .ref (σ.2.1 71)), (3, .ref (σ.2.1 72)), (4, .ref (σ.2.1 73)), (5, .ref (σ.2.1 74)), (6, .ref (σ.2.1 19)), (7, .int al), (8, .int (nI rr)), (9, .int (nI m9)), (10, .int (nI c9))]) [1, 0, 2, 3, 4, 5, 6, 7, 8, 9, 10, 11, 12] rfl ?_
                          exact ihL_25 (k + 1) _ _ (by omega) (by omega) (by omega) (by omega)
                    refine q_sub (lv' := [(11, .int (q_chs2 U c9 0)), (12, .int (nI 0)), (0, .ref (σ.2.1 0)), (1, .ref (σ.2.1 69)), (2, .ref (σ.2.1 71)), (3, .ref (σ.2.1 72)), (4, .ref (σ.2.1 73)), (5, .ref (σ.2.1 74)), (6, .ref (σ.2.1 19)), (7, .int al), (8, .int (nI rr)), (9, .int (nI m9)), (10, .int (nI c9))]) [1, 0, 3, 4, 5, 6, 7, 8, 9, 10, 11, 12, 2] rfl ?_
                    exact L_25 _ 0 _ _ (Nat.zero_le _) (by omega) (by omega) (Nat.lt_succ_self _)
              refine q_sub (lv' := [(10, .int (nI 0)), (0, .ref (σ.2.1 0)), (1, .ref (σ.2.1 69)), (2, .ref (σ.2.1 71)), (3, .ref (σ.2.1 72)), (4, .ref (σ.2.1 73)), (5, .ref (σ.2.1 74)), (6, .ref (σ.2.1 19)), (7, .int al), (8, .int (nI rr)), (9, .int (nI m9))]) [0, 1, 2, 3, 4, 5, 6, 7, 8, 9, 10] rfl ?_
              exact L_5 _ 0 _ _ (Nat.zero_le _) (by omega) (by omega) (Nat.lt_succ_self _)
            · skip
              refine q_aload_n C dL_same_37 rfl 1 rfl ?_
              refine q_iload C dL_same_38 0 rfl ?_
              refine q_callVi C (As := [.int (nI k)]) (rest := []) (k := 0) (by omega) q_enBP rfl rfl (zM_chainAt l σ U G hlf (zRel_boff h hU).2.2.2.2.2.2.2.2.1 (k := k) (by rw [z_best_boff hU, ← hB9]; omega)) 1 gL_same_X2_chainAt rfl rfl rfl (by decide +kernel) ⟨Nat.le_of_ble_eq_true rfl, Nat.le_of_ble_eq_true rfl⟩ dL_same_40 rfl (Nat.le_of_ble_eq_true rfl) ⟨by show _ ≤ 600; omega, by show _ ≤ 3600; omega⟩ (fun r_40 V_36 G_37 hq_40 => ?_)
              obtain ⟨hca_40, hcb_40, rfl⟩ := hq_40
              rw [z_best_boff hU, ← hB9] at hca_40
              subst hca_40
              have hd9 := hre.2 k (by omega)
              refine q_iload C dL_same_43 9 rfl ?_
              refine q_iconst C (nI 3) dL_same_45 (by decide) ?_
              refine q_iload C dL_same_46 0 rfl ?_
              refine q_imulN C dL_same_48  ?_
              refine q_ishrN C dL_same_49 (by omega) (by omega) ?_
              refine q_bipush C (nI 7) dL_same_50 (by decide) ?_
              refine q_iand7N C dL_same_52 ?_
              refine q_iconst C (nI 1) dL_same_53 (by decide) ?_
              refine q_isubN C dL_same_54 (by rw [hd9]; omega) ?_
              refine q_stk (st' := [.int (nI (B.getD k 0)), .int (nI (B.getD k 0))]) (by rw [hd9, Nat.add_sub_cancel]) ?_
              refine q_icmp_eq C 60 dL_same_55 (by decide) (fun c_55 => ?_) (fun c_55 => absurd c_55 (by exact fun z => z rfl))
              refine q_iincN C [(10, .int (nI (k + 1))), (0, .ref (σ.2.1 0)), (1, .ref (σ.2.1 69)), (2, .ref (σ.2.1 71)), (3, .ref (σ.2.1 72)), (4, .ref (σ.2.1 73)), (5, .ref (σ.2.1 74)), (6, .ref (σ.2.1 19)), (7, .int al), (8, .int (nI rr)), (9, .int (nI m9))] dL_same_60 0 rfl (by decide) rfl ?_
              refine q_goto C 30 dL_same_63 (by decide) ?_
              refine q_sub (lv' := [(10, .int (nI (k + 1))), (0, .ref (σ.2.1 0)), (1, .ref (σ.2.1 69)), (2, .ref (σ.2.1 71)), (3, .ref (σ.2.1 72)), (4, .ref (σ.2.1 73)), (5, .ref (σ.2.1 74)), (6, .ref (σ.2.1 19)), (7, .int al), (8, .int (nI rr)), (9, .int (nI m9))]) [0, 1, 2, 3, 4, 5, 6, 7, 8, 9, 10] rfl ?_
              exact ihL_4 (k + 1) _ _ V_36 (by omega) (z_boff_tr hU hcb_40) (by omega) (by omega) (by omega)
        refine q_sub (lv' := [(10, .int (nI 0)), (0, .ref (σ.2.1 0)), (1, .ref (σ.2.1 69)), (2, .ref (σ.2.1 71)), (3, .ref (σ.2.1 72)), (4, .ref (σ.2.1 73)), (5, .ref (σ.2.1 74)), (6, .ref (σ.2.1 19)), (7, .int al), (8, .int (nI rr)), (9, .int (nI m9))]) [0, 2, 3, 4, 5, 6, 7, 8, 9, 10, 1] rfl ?_
        exact L_4 _ 0 0 0 V (Nat.zero_le _) (q_boff_rfl V) (by omega) (by omega) (Nat.lt_succ_self _)
      · skip
        have hmB : m9 < B.length := Nat.lt_of_le_of_ne hm9 (fun z => by have := (zre_0 hre hm9).mpr z; omega)
        refine q_iincN C [(9, .int (nI (m9 + 1))), (0, .ref (σ.2.1 0)), (1, .ref (σ.2.1 69)), (2, .ref (σ.2.1 71)), (3, .ref (σ.2.1 72)), (4, .ref (σ.2.1 73)), (5, .ref (σ.2.1 74)), (6, .ref (σ.2.1 19)), (7, .int al), (8, .int (nI rr))] dL_same_21 0 rfl (by decide) rfl ?_
        refine q_goto C 11 dL_same_24 (by decide) ?_
        refine q_sub (lv' := [(9, .int (nI (m9 + 1))), (0, .ref (σ.2.1 0)), (1, .ref (σ.2.1 69)), (2, .ref (σ.2.1 71)), (3, .ref (σ.2.1 72)), (4, .ref (σ.2.1 73)), (5, .ref (σ.2.1 74)), (6, .ref (σ.2.1 19)), (7, .int al), (8, .int (nI rr))]) [0, 1, 2, 3, 4, 5, 6, 7, 8, 9] rfl ?_
        exact ihL_3 (m9 + 1) (by omega) (by omega)
  refine q_sub (lv' := [(9, .int (nI 0)), (0, .ref (σ.2.1 0)), (1, .ref (σ.2.1 69)), (2, .ref (σ.2.1 71)), (3, .ref (σ.2.1 72)), (4, .ref (σ.2.1 73)), (5, .ref (σ.2.1 74)), (6, .ref (σ.2.1 19)), (7, .int al), (8, .int (nI rr))]) [0, 2, 3, 4, 5, 6, 7, 8, 9, 1] rfl ?_
  exact L_3 _ 0 (Nat.zero_le _) (Nat.lt_succ_self _)
