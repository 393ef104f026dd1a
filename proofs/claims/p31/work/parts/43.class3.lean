abbrev rX2_pattern : Room := { frames := 7, cells := 6, slots := 36, locals := 221 }
theorem iX2_pattern_X2 : ∀ w ∈ u_ws RX2 TX2 15, w ∈ wsX2_pattern := by decide +kernel
set_option maxHeartbeats 4000000 in
set_option maxRecDepth 100000 in
/-- pattern -/
theorem kX2_pattern (l : Launch) (σ : q_E) (V : q_V) (G : q_G) (hlf : l.stackTraces = false) {n : Nat} (hn : V 0 6 = nI n) (hn2 : n ≤ 12) (x : Int32) : q_Xi l yX2_pattern wsX2_pattern rX2_pattern σ [.ref (σ.2.1 0), .int x] V G (fun r V' G' => (q_c2 (q_ok 7 x) (n ≠ 12)) = 0 ∧ (nI n) = r ∧ (q_up (q_up (q_cpy (q_up (q_up V (27 + (1 + n)) 1 (V (27 + 0) 1)) (27 + (1 + n)) 2 (V (27 + 0) 2)) (48 + 0) (48 + (1 + n)) 48) 5 n x) 0 6 (nI (n + 1))) = V' ∧ G = G') ((fun E V' G' => q_xc [xI, xS] (q_c2 (q_ok 7 x) (n ≠ 12)) E ∧ V = V' ∧ G = G')) 6 36 := by
  refine q_Xi_of (cc := cX2_pattern) (maxL := 3) (lv := [(0, .ref (σ.2.1 0)), (1, .int x)]) (by decide +kernel) rfl (Nat.le_of_ble_eq_true rfl) rfl ?_
  intro p e s m args below meth c Q C hR hO T
  refine q_iload_n C dX2_pattern_0 rfl 1 rfl ?_
  refine q_xcallSv C (As := [.int x]) (rest := []) (kX2_checkPerson l σ V G hlf x) 1 gX2_pattern_X2_checkPerson rfl rfl rfl (by decide +kernel) ⟨Nat.le_of_ble_eq_true rfl, Nat.le_of_ble_eq_true rfl⟩ dX2_pattern_1 rfl (Nat.le_of_ble_eq_true rfl) ⟨Nat.le_of_ble_eq_true rfl, Nat.le_of_ble_eq_true rfl⟩ (fun E_1 V_1 G_2 hx_1 => ?_) (fun V_1 G_2 hq_1 => ?_)
  · skip
    obtain ⟨rfl, n_1, rfl, rfl⟩ := hx_1
    refine hO _ _ _ _ _ _ _ _ ?_ (Nat.le_of_ble_eq_true rfl) (Nat.le_of_ble_eq_true rfl)
    first | exact ⟨q_xc_i (q_c2_1 n_1) rfl, rfl, rfl⟩
  obtain ⟨p_1, rfl, rfl⟩ := hq_1
  refine q_aload_n C dX2_pattern_4 rfl 0 rfl ?_
  refine q_get C (k := 0) (fi := 6) (.int (nI n)) (by omega) q_enBP rfl iX2_pattern_X2 (by decide) (by decide +kernel) rfl (congrArg (fun z => some (Value.int z)) (hn)) dX2_pattern_5 ?_
  refine q_bipush C (nI 12) dX2_pattern_8 (by decide) ?_
  refine q_icmp_ltN C 23 dX2_pattern_10 (by decide) (by omega) (by omega) (fun c_10 => ?_) (fun c_10 => ?_)
  · skip
    refine q_aload_n C dX2_pattern_23 rfl 0 rfl ?_
    refine q_get C (k := 0) (fi := 6) (.int (nI n)) (by omega) q_enBP rfl iX2_pattern_X2 (by decide) (by decide +kernel) rfl (congrArg (fun z => some (Value.int z)) (hn)) dX2_pattern_24 ?_
    refine q_istore_n C [(2, .int (nI n)), (0, .ref (σ.2.1 0)), (1, .int x)] dX2_pattern_27 rfl (by decide) rfl ?_
    refine q_aload_n C dX2_pattern_28 rfl 1 rfl ?_
    refine q_get C (k := 0) (fi := 4) (.ref (σ.2.1 4)) (by omega) q_enBP rfl iX2_pattern_X2 (by decide) (by decide +kernel) rfl rfl dX2_pattern_29 ?_
    refine q_iload_n C dX2_pattern_32 rfl 0 rfl ?_
    refine q_aaldP C (by omega) dX2_pattern_33 ?_
    refine q_stk (st' := [.ref (σ.2.1 (27 + (1 + n)))]) (by rw [show 27 + (1 + n) = 28 + n by omega]) ?_
    refine q_aload_n C dX2_pattern_34 rfl 1 rfl ?_
    refine q_get C (k := 0) (fi := 3) (.ref (σ.2.1 (27 + 0))) (by omega) q_enBP rfl iX2_pattern_X2 (by decide) (by decide +kernel) rfl rfl dX2_pattern_35 ?_
    refine q_callNv C (As := [.ref (σ.2.1 (27 + 0))]) (rest := []) (k := 27 + (1 + n)) (q_isG (by omega)).1 (q_enG (by omega)) rfl rfl (kX1_copyFrom l σ V G (i := 1 + n) (j := 0) (by omega) (by decide) (by omega)) 1 (host := RX2) gX2_pattern_X1_copyFrom_n126 rfl rfl rfl (by decide +kernel) (by decide +kernel) (by decide +kernel) (by decide +kernel) (by decide +kernel) ⟨Nat.le_of_ble_eq_true rfl, Nat.le_of_ble_eq_true rfl⟩ dX2_pattern_38 rfl (Nat.le_of_ble_eq_true rfl) ⟨Nat.le_of_ble_eq_true rfl, Nat.le_of_ble_eq_true rfl⟩ (fun V_3 G_4 hq_38 => ?_)
    obtain ⟨rfl, rfl⟩ := hq_38
    refine q_aload_n C dX2_pattern_41 rfl 1 rfl ?_
    refine q_get C (k := 0) (fi := 5) (.ref (σ.2.1 5)) (by omega) q_enBP rfl iX2_pattern_X2 (by decide) (by decide +kernel) rfl rfl dX2_pattern_42 ?_
    refine q_iload_n C dX2_pattern_45 rfl 0 rfl ?_
    refine q_iload_n C dX2_pattern_46 rfl 2 rfl ?_
    refine q_iastN C (k := 5) (n := 12) ⟨by decide, by decide, by decide⟩ (by omega) (by decide) dX2_pattern_47 ?_
    refine q_aload_n C dX2_pattern_48 rfl 1 rfl ?_
    refine q_dup C dX2_pattern_49 rfl ?_
    refine q_get C (k := 0) (fi := 6) (.int (nI n)) (by omega) q_enBP rfl iX2_pattern_X2 (by decide) (by decide +kernel) rfl (by simp [q_up, q_cpy, hn]; intro z; omega) dX2_pattern_50 ?_
    refine q_iconst C (nI 1) dX2_pattern_53 (by decide) ?_
    refine q_iaddN C dX2_pattern_54  ?_
    refine q_put C (k := 0) (fi := 6) tyX2 tyX2_ok nmX2 (by omega) q_enBP rfl iX2_pattern_X2 (by decide) (by decide +kernel) rfl rfl (by decide +kernel) (Nat.le_of_ble_eq_true rfl) (q_enBP |>.trans (by simp [q_up])) dX2_pattern_55 ?_
    refine q_iload_n C dX2_pattern_58 rfl 0 rfl ?_
    refine hR _ _ _ _ _ _ _ ?_ rfl (Nat.le_of_ble_eq_true rfl) (Nat.le_of_ble_eq_true rfl) dX2_pattern_59
    exact ⟨q_c2_0 p_1 (by omega), rfl, rfl, rfl⟩
  · skip
    refine q_throw C "java/lang/IllegalStateException" "no room for a pattern" T hlf rfl (by decide +kernel) (by decide +kernel) (by decide +kernel) (by decide +kernel) (by decide +kernel) (by decide +kernel) dX2_pattern_13 dX2_pattern_16 dX2_pattern_17 dX2_pattern_19 dX2_pattern_22 (Nat.le_of_ble_eq_true rfl) (Nat.le_of_ble_eq_true rfl) (Nat.le_of_ble_eq_true rfl) (Nat.le_of_ble_eq_true rfl) (Nat.le_of_ble_eq_true rfl) (Nat.le_of_ble_eq_true rfl) ?_
    obtain rfl : n = 12 := by omega
    first | exact ⟨q_xc_i (q_c2_2 p_1 (fun q => q rfl)) rfl, rfl, rfl⟩
abbrev rX2_symmetries : Room := { frames := 7, cells := 6, slots := 36, locals := 111 }
theorem iX2_symmetries_X2 : ∀ w ∈ u_ws RX2 TX2 15, w ∈ wsX2_symmetries := by decide +kernel
set_option maxHeartbeats 4000000 in
set_option maxRecDepth 100000 in
/-- symmetries -/
theorem kX2_symmetries (l : Launch) (σ : q_E) (V : q_V) (G : q_G) (hlf : l.stackTraces = false) {n : Nat} (hn : V 0 6 = nI n) (hn2 : n ≤ 12) (hp : q_cpats V n) (x : Int32) : q_Xi l yX2_symmetries wsX2_symmetries rX2_symmetries σ [.ref (σ.2.1 0), .int x] V G (fun r V' G' => (q_c1 (q_ok n x)) = 0 ∧ (nI (q_b (q_calk V (q_n x) (q_n x) 4) 1 + q_b (q_calk V (q_n x) (q_n x) 6) 2 + q_b (q_calk V (q_n x) (q_n x) 2) 4 + q_b (q_calk V (q_n x) (q_n x) 1) 8)) = r ∧ V = V' ∧ G = G') ((fun E V' G' => q_xc [xI] (q_c1 (q_ok n x)) E ∧ V = V' ∧ G = G')) 6 36 := by
  refine q_Xi_of (cc := cX2_symmetries) (maxL := 3) (lv := [(0, .ref (σ.2.1 0)), (1, .int x)]) (by decide +kernel) rfl (Nat.le_of_ble_eq_true rfl) rfl ?_
  intro p e s m args below meth c Q C hR hO T
  refine q_aload_n C dX2_symmetries_0 rfl 0 rfl ?_
  refine q_iload_n C dX2_symmetries_1 rfl 1 rfl ?_
  refine q_xcallVv C (As := [.int x]) (rest := []) (k := 0) (by omega) q_enBP rfl rfl (kX2_checkPattern l σ V G hlf hn hn2 x) 1 gX2_symmetries_X2_checkPattern rfl rfl rfl (by decide +kernel) ⟨Nat.le_of_ble_eq_true rfl, Nat.le_of_ble_eq_true rfl⟩ dX2_symmetries_2 rfl (Nat.le_of_ble_eq_true rfl) ⟨Nat.le_of_ble_eq_true rfl, Nat.le_of_ble_eq_true rfl⟩ (fun E_2 V_1 G_2 hx_2 => ?_) (fun V_1 G_2 hq_2 => ?_)
  · skip
    obtain ⟨rfl, n_2, rfl, rfl⟩ := hx_2
    refine hO _ _ _ _ _ _ _ _ ?_ (Nat.le_of_ble_eq_true rfl) (Nat.le_of_ble_eq_true rfl)
    first | exact ⟨q_xc_i (q_c1_1 n_2) rfl, rfl, rfl⟩
  obtain ⟨p_2, rfl, rfl⟩ := hq_2
  obtain ⟨a, ha, rfl⟩ := p_2
  refine q_aload_n C dX2_symmetries_5 rfl 0 rfl ?_
  refine q_get C (k := 0) (fi := 4) (.ref (σ.2.1 4)) (by omega) q_enBP rfl iX2_symmetries_X2 (by decide) (by decide +kernel) rfl rfl dX2_symmetries_6 ?_
  refine q_iload_n C dX2_symmetries_9 rfl 1 rfl ?_
  refine q_aaldP C (by omega) dX2_symmetries_10 ?_
  refine q_stk (st' := [.ref (σ.2.1 (27 + (1 + a)))]) (by rw [show 27 + (1 + a) = 28 + a by omega]) ?_
  refine q_astore_n C [(2, .ref (σ.2.1 (27 + (1 + a)))), (0, .ref (σ.2.1 0)), (1, .int (nI a))] dX2_symmetries_11 rfl (by decide) rfl ?_
  refine q_aload_n C dX2_symmetries_12 rfl 0 rfl ?_
  refine q_iconst C (nI 4) dX2_symmetries_13 (by decide) ?_
  refine q_aload_n C dX2_symmetries_14 rfl 0 rfl ?_
  refine q_callNi C (As := [.int (nI 4), .ref (σ.2.1 (27 + (1 + a)))]) (rest := []) (k := 27 + (1 + a)) (q_isG (by omega)).1 (q_enG (by omega)) rfl rfl (kX1_hasImage l σ V G (i := 1 + a) (by omega) (hp a ha) (j := 1 + a) (by omega) (hp a ha) (k := 4) (by decide)) 2 (host := RX2) gX2_symmetries_X1_hasImage_n133 rfl rfl rfl (by decide +kernel) (by decide +kernel) (by decide +kernel) (by decide +kernel) (by decide +kernel) ⟨Nat.le_of_ble_eq_true rfl, Nat.le_of_ble_eq_true rfl⟩ dX2_symmetries_15 rfl (Nat.le_of_ble_eq_true rfl) ⟨Nat.le_of_ble_eq_true rfl, Nat.le_of_ble_eq_true rfl⟩ (fun r_15 V_3 G_4 hq_15 => ?_)
  obtain ⟨hs_15, rfl, rfl⟩ := hq_15
  have J_5 : ∀ (v : Nat) (hv : v = q_b (q_calk V a a 4) 1), q_W σ p l e rX2_symmetries s m args below meth c Q 3 1 6 V G [(0, .ref (σ.2.1 0)), (1, .int (nI a)), (2, .ref (σ.2.1 (27 + (1 + a))))] 26 [.int (nI v)] := by
    intro v hv
    subst hv
    refine q_aload_n C dX2_symmetries_26 rfl 2 rfl ?_
    refine q_bipush C (nI 6) dX2_symmetries_27 (by decide) ?_
    refine q_aload_n C dX2_symmetries_29 rfl 2 rfl ?_
    refine q_callNi C (As := [.int (nI 6), .ref (σ.2.1 (27 + (1 + a)))]) (rest := [.int (nI (q_b (q_calk V a a 4) 1))]) (k := 27 + (1 + a)) (q_isG (by omega)).1 (q_enG (by omega)) rfl rfl (kX1_hasImage l σ V G (i := 1 + a) (by omega) (hp a ha) (j := 1 + a) (by omega) (hp a ha) (k := 6) (by decide)) 2 (host := RX2) gX2_symmetries_X1_hasImage_n133 rfl rfl rfl (by decide +kernel) (by decide +kernel) (by decide +kernel) (by decide +kernel) (by decide +kernel) ⟨Nat.le_of_ble_eq_true rfl, Nat.le_of_ble_eq_true rfl⟩ dX2_symmetries_30 rfl (Nat.le_of_ble_eq_true rfl) ⟨Nat.le_of_ble_eq_true rfl, Nat.le_of_ble_eq_true rfl⟩ (fun r_30 V_6 G_7 hq_30 => ?_)
    obtain ⟨hs_30, rfl, rfl⟩ := hq_30
    have J_8 : ∀ (v : Nat) (hv : v = q_b (q_calk V a a 6) 2), q_W σ p l e rX2_symmetries s m args below meth c Q 3 1 6 V G [(0, .ref (σ.2.1 0)), (1, .int (nI a)), (2, .ref (σ.2.1 (27 + (1 + a))))] 41 [.int (nI v), .int (nI (q_b (q_calk V a a 4) 1))] := by
      intro v hv
      subst hv
      refine q_iaddN C dX2_symmetries_41  ?_
      refine q_aload_n C dX2_symmetries_42 rfl 2 rfl ?_
      refine q_iconst C (nI 2) dX2_symmetries_43 (by decide) ?_
      refine q_aload_n C dX2_symmetries_44 rfl 2 rfl ?_
      refine q_callNi C (As := [.int (nI 2), .ref (σ.2.1 (27 + (1 + a)))]) (rest := [.int (nI ((q_b (q_calk V a a 4) 1) + (q_b (q_calk V a a 6) 2)))]) (k := 27 + (1 + a)) (q_isG (by omega)).1 (q_enG (by omega)) rfl rfl (kX1_hasImage l σ V G (i := 1 + a) (by omega) (hp a ha) (j := 1 + a) (by omega) (hp a ha) (k := 2) (by decide)) 2 (host := RX2) gX2_symmetries_X1_hasImage_n133 rfl rfl rfl (by decide +kernel) (by decide +kernel) (by decide +kernel) (by decide +kernel) (by decide +kernel) ⟨Nat.le_of_ble_eq_true rfl, Nat.le_of_ble_eq_true rfl⟩ dX2_symmetries_45 rfl (Nat.le_of_ble_eq_true rfl) ⟨Nat.le_of_ble_eq_true rfl, Nat.le_of_ble_eq_true rfl⟩ (fun r_45 V_9 G_10 hq_45 => ?_)
      obtain ⟨hs_45, rfl, rfl⟩ := hq_45
      have J_11 : ∀ (v : Nat) (hv : v = q_b (q_calk V a a 2) 4), q_W σ p l e rX2_symmetries s m args below meth c Q 3 1 6 V G [(0, .ref (σ.2.1 0)), (1, .int (nI a)), (2, .ref (σ.2.1 (27 + (1 + a))))] 56 [.int (nI v), .int (nI (q_b (q_calk V a a 4) 1 + q_b (q_calk V a a 6) 2))] := by
        intro v hv
        subst hv
        refine q_iaddN C dX2_symmetries_56  ?_
        refine q_aload_n C dX2_symmetries_57 rfl 2 rfl ?_
        refine q_iconst C (nI 1) dX2_symmetries_58 (by decide) ?_
        refine q_aload_n C dX2_symmetries_59 rfl 2 rfl ?_
        refine q_callNi C (As := [.int (nI 1), .ref (σ.2.1 (27 + (1 + a)))]) (rest := [.int (nI ((q_b (q_calk V a a 4) 1 + q_b (q_calk V a a 6) 2) + (q_b (q_calk V a a 2) 4)))]) (k := 27 + (1 + a)) (q_isG (by omega)).1 (q_enG (by omega)) rfl rfl (kX1_hasImage l σ V G (i := 1 + a) (by omega) (hp a ha) (j := 1 + a) (by omega) (hp a ha) (k := 1) (by decide)) 2 (host := RX2) gX2_symmetries_X1_hasImage_n133 rfl rfl rfl (by decide +kernel) (by decide +kernel) (by decide +kernel) (by decide +kernel) (by decide +kernel) ⟨Nat.le_of_ble_eq_true rfl, Nat.le_of_ble_eq_true rfl⟩ dX2_symmetries_60 rfl (Nat.le_of_ble_eq_true rfl) ⟨Nat.le_of_ble_eq_true rfl, Nat.le_of_ble_eq_true rfl⟩ (fun r_60 V_12 G_13 hq_60 => ?_)
        obtain ⟨hs_60, rfl, rfl⟩ := hq_60
        have J_14 : ∀ (v : Nat) (hv : v = q_b (q_calk V a a 1) 8), q_W σ p l e rX2_symmetries s m args below meth c Q 3 1 6 V G [(0, .ref (σ.2.1 0)), (1, .int (nI a)), (2, .ref (σ.2.1 (27 + (1 + a))))] 72 [.int (nI v), .int (nI (q_b (q_calk V a a 4) 1 + q_b (q_calk V a a 6) 2 + q_b (q_calk V a a 2) 4))] := by
          intro v hv
          subst hv
          refine q_iaddN C dX2_symmetries_72  ?_
          refine hR _ _ _ _ _ _ _ ?_ rfl (Nat.le_of_ble_eq_true rfl) (Nat.le_of_ble_eq_true rfl) dX2_symmetries_73
          rw [q_n_nI (n := a) (by omega)]
          exact ⟨q_c1_0 (q_ok_nI ha), rfl, rfl, rfl⟩
        refine q_if_eq C 71 dX2_symmetries_63 (by decide) (fun c_63 => ?_) (fun c_63 => ?_)
        · skip
          have b_60 := (q_is_eq hs_60).mp c_63
          refine q_iconst C (nI 0) dX2_symmetries_71 (by decide) ?_
          refine q_sub (lv' := [(0, .ref (σ.2.1 0)), (1, .int (nI a)), (2, .ref (σ.2.1 (27 + (1 + a))))]) [0, 1, 2] rfl ?_
          exact J_14 _ (by first | exact (q_b_y (P := (q_calk V a a 1)) b_60 8).symm | exact (q_b_n (P := (q_calk V a a 1)) b_60 8).symm)
        · skip
          have b_60 := (q_is_ne hs_60).mp c_63
          refine q_bipush C (nI 8) dX2_symmetries_66 (by decide) ?_
          refine q_goto C 72 dX2_symmetries_68 (by decide) ?_
          refine q_sub (lv' := [(0, .ref (σ.2.1 0)), (1, .int (nI a)), (2, .ref (σ.2.1 (27 + (1 + a))))]) [0, 1, 2] rfl ?_
          exact J_14 _ (by first | exact (q_b_y (P := (q_calk V a a 1)) b_60 8).symm | exact (q_b_n (P := (q_calk V a a 1)) b_60 8).symm)
      refine q_if_eq C 55 dX2_symmetries_48 (by decide) (fun c_48 => ?_) (fun c_48 => ?_)
      · skip
        have b_45 := (q_is_eq hs_45).mp c_48
        refine q_iconst C (nI 0) dX2_symmetries_55 (by decide) ?_
        refine q_sub (lv' := [(0, .ref (σ.2.1 0)), (1, .int (nI a)), (2, .ref (σ.2.1 (27 + (1 + a))))]) [0, 1, 2] rfl ?_
        exact J_11 _ (by first | exact (q_b_y (P := (q_calk V a a 2)) b_45 4).symm | exact (q_b_n (P := (q_calk V a a 2)) b_45 4).symm)
      · skip
        have b_45 := (q_is_ne hs_45).mp c_48
        refine q_iconst C (nI 4) dX2_symmetries_51 (by decide) ?_
        refine q_goto C 56 dX2_symmetries_52 (by decide) ?_
        refine q_sub (lv' := [(0, .ref (σ.2.1 0)), (1, .int (nI a)), (2, .ref (σ.2.1 (27 + (1 + a))))]) [0, 1, 2] rfl ?_
        exact J_11 _ (by first | exact (q_b_y (P := (q_calk V a a 2)) b_45 4).symm | exact (q_b_n (P := (q_calk V a a 2)) b_45 4).symm)
    refine q_if_eq C 40 dX2_symmetries_33 (by decide) (fun c_33 => ?_) (fun c_33 => ?_)
    · skip
      have b_30 := (q_is_eq hs_30).mp c_33
      refine q_iconst C (nI 0) dX2_symmetries_40 (by decide) ?_
      refine q_sub (lv' := [(0, .ref (σ.2.1 0)), (1, .int (nI a)), (2, .ref (σ.2.1 (27 + (1 + a))))]) [0, 1, 2] rfl ?_
      exact J_8 _ (by first | exact (q_b_y (P := (q_calk V a a 6)) b_30 2).symm | exact (q_b_n (P := (q_calk V a a 6)) b_30 2).symm)
    · skip
      have b_30 := (q_is_ne hs_30).mp c_33
      refine q_iconst C (nI 2) dX2_symmetries_36 (by decide) ?_
      refine q_goto C 41 dX2_symmetries_37 (by decide) ?_
      refine q_sub (lv' := [(0, .ref (σ.2.1 0)), (1, .int (nI a)), (2, .ref (σ.2.1 (27 + (1 + a))))]) [0, 1, 2] rfl ?_
      exact J_8 _ (by first | exact (q_b_y (P := (q_calk V a a 6)) b_30 2).symm | exact (q_b_n (P := (q_calk V a a 6)) b_30 2).symm)
  refine q_if_eq C 25 dX2_symmetries_18 (by decide) (fun c_18 => ?_) (fun c_18 => ?_)
  · skip
    have b_15 := (q_is_eq hs_15).mp c_18
    refine q_iconst C (nI 0) dX2_symmetries_25 (by decide) ?_
    refine q_sub (lv' := [(0, .ref (σ.2.1 0)), (1, .int (nI a)), (2, .ref (σ.2.1 (27 + (1 + a))))]) [1, 2, 0] rfl ?_
    exact J_5 _ (by first | exact (q_b_y (P := (q_calk V a a 4)) b_15 1).symm | exact (q_b_n (P := (q_calk V a a 4)) b_15 1).symm)
  · skip
    have b_15 := (q_is_ne hs_15).mp c_18
    refine q_iconst C (nI 1) dX2_symmetries_21 (by decide) ?_
    refine q_goto C 26 dX2_symmetries_22 (by decide) ?_
    refine q_sub (lv' := [(0, .ref (σ.2.1 0)), (1, .int (nI a)), (2, .ref (σ.2.1 (27 + (1 + a))))]) [1, 2, 0] rfl ?_
    exact J_5 _ (by first | exact (q_b_y (P := (q_calk V a a 4)) b_15 1).symm | exact (q_b_n (P := (q_calk V a a 4)) b_15 1).symm)
abbrev rX2_origin : Room := { frames := 7, cells := 6, slots := 36, locals := 111 }
set_option maxHeartbeats 4000000 in
set_option maxRecDepth 100000 in
/-- origin -/
theorem kX2_origin (l : Launch) (σ : q_E) (V : q_V) (G : q_G) (hlf : l.stackTraces = false) {n : Nat} (hn : V 0 6 = nI n) (hn2 : n ≤ 12) (hp : q_cpats V n) (x : Int32) : q_Xi l yX2_origin wsX2_origin rX2_origin σ [.ref (σ.2.1 0), .int x] V G (fun r V' G' => (q_c1 (q_ok n x)) = 0 ∧ (∃ o, q_corg V (q_n x) o ∧ nI o = r) ∧ V = V' ∧ G = G') ((fun E V' G' => q_xc [xI] (q_c1 (q_ok n x)) E ∧ V = V' ∧ G = G')) 6 36 := by
  refine q_Xi_of (cc := cX2_origin) (maxL := 2) (lv := [(0, .ref (σ.2.1 0)), (1, .int x)]) (by decide +kernel) rfl (Nat.le_of_ble_eq_true rfl) rfl ?_
  intro p e s m args below meth c Q C hR hO T
  refine q_aload_n C dX2_origin_0 rfl 0 rfl ?_
  refine q_iload_n C dX2_origin_1 rfl 1 rfl ?_
  refine q_xcallVv C (As := [.int x]) (rest := []) (k := 0) (by omega) q_enBP rfl rfl (kX2_checkPattern l σ V G hlf hn hn2 x) 1 gX2_origin_X2_checkPattern rfl rfl rfl (by decide +kernel) ⟨Nat.le_of_ble_eq_true rfl, Nat.le_of_ble_eq_true rfl⟩ dX2_origin_2 rfl (Nat.le_of_ble_eq_true rfl) ⟨Nat.le_of_ble_eq_true rfl, Nat.le_of_ble_eq_true rfl⟩ (fun E_2 V_1 G_2 hx_2 => ?_) (fun V_1 G_2 hq_2 => ?_)
  · skip
    obtain ⟨rfl, n_2, rfl, rfl⟩ := hx_2
    refine hO _ _ _ _ _ _ _ _ ?_ (Nat.le_of_ble_eq_true rfl) (Nat.le_of_ble_eq_true rfl)
    first | exact ⟨q_xc_i (q_c1_1 n_2) rfl, rfl, rfl⟩
  obtain ⟨p_2, rfl, rfl⟩ := hq_2
  obtain ⟨a, ha, rfl⟩ := p_2
  refine q_aload_n C dX2_origin_5 rfl 0 rfl ?_
  refine q_iload_n C dX2_origin_6 rfl 1 rfl ?_
  refine q_callVi C (As := [.int (nI a)]) (rest := []) (k := 0) (by omega) q_enBP rfl rfl (kX2_originOf l σ V G hn2 hp ha) 1 gX2_origin_X2_originOf rfl rfl rfl (by decide +kernel) ⟨Nat.le_of_ble_eq_true rfl, Nat.le_of_ble_eq_true rfl⟩ dX2_origin_7 rfl (Nat.le_of_ble_eq_true rfl) ⟨Nat.le_of_ble_eq_true rfl, Nat.le_of_ble_eq_true rfl⟩ (fun r_7 V_3 G_4 hq_7 => ?_)
  obtain ⟨ho_7, rfl, rfl⟩ := hq_7
  refine hR _ _ _ _ _ _ _ ?_ rfl (Nat.le_of_ble_eq_true rfl) (Nat.le_of_ble_eq_true rfl) dX2_origin_10
  rw [q_n_nI (n := a) (by omega)]
  exact ⟨q_c1_0 (q_ok_nI ha), ho_7, rfl, rfl⟩
abbrev rX2_needs : Room := { frames := 7, cells := 6, slots := 36, locals := 111 }
theorem iX2_needs_X2 : ∀ w ∈ u_ws RX2 TX2 15, w ∈ wsX2_needs := by decide +kernel
set_option maxHeartbeats 4000000 in
set_option maxRecDepth 100000 in
/-- needs -/
theorem kX2_needs (l : Launch) (σ : q_E) (V : q_V) (G : q_G) (hlf : l.stackTraces = false) {n : Nat} (hn : V 0 6 = nI n) (hn2 : n ≤ 12) (hp : q_cpats V n) (x y : Int32) : q_Xi l yX2_needs wsX2_needs rX2_needs σ [.ref (σ.2.1 0), .int x, .int y] V G (fun r V' G' => (q_c1 (q_ok n x ∧ q_ok 8 y)) = 0 ∧ (nI (q_cneeds V (q_n x) y)) = r ∧ V = V' ∧ G = G') ((fun E V' G' => q_xc [xI] (q_c1 (q_ok n x ∧ q_ok 8 y)) E ∧ V = V' ∧ G = G')) 6 36 := by
  refine q_Xi_of (cc := cX2_needs) (maxL := 3) (lv := [(0, .ref (σ.2.1 0)), (1, .int x), (2, .int y)]) (by decide +kernel) rfl (Nat.le_of_ble_eq_true rfl) rfl ?_
  intro p e s m args below meth c Q C hR hO T
  refine q_aload_n C dX2_needs_0 rfl 0 rfl ?_
  refine q_iload_n C dX2_needs_1 rfl 1 rfl ?_
  refine q_xcallVv C (As := [.int x]) (rest := []) (k := 0) (by omega) q_enBP rfl rfl (kX2_checkPattern l σ V G hlf hn hn2 x) 1 gX2_needs_X2_checkPattern rfl rfl rfl (by decide +kernel) ⟨Nat.le_of_ble_eq_true rfl, Nat.le_of_ble_eq_true rfl⟩ dX2_needs_2 rfl (Nat.le_of_ble_eq_true rfl) ⟨Nat.le_of_ble_eq_true rfl, Nat.le_of_ble_eq_true rfl⟩ (fun E_2 V_1 G_2 hx_2 => ?_) (fun V_1 G_2 hq_2 => ?_)
  · skip
    obtain ⟨rfl, n_2, rfl, rfl⟩ := hx_2
    refine hO _ _ _ _ _ _ _ _ ?_ (Nat.le_of_ble_eq_true rfl) (Nat.le_of_ble_eq_true rfl)
    first | exact ⟨q_xc_i (q_c1_1 (fun q => n_2 q.1)) rfl, rfl, rfl⟩
  obtain ⟨p_2, rfl, rfl⟩ := hq_2
  obtain ⟨a, ha, rfl⟩ := p_2
  refine q_iload_n C dX2_needs_5 rfl 2 rfl ?_
  refine q_xcallSv C (As := [.int y]) (rest := []) (kX2_checkColour l σ V G hlf y) 1 gX2_needs_X2_checkColour rfl rfl rfl (by decide +kernel) ⟨Nat.le_of_ble_eq_true rfl, Nat.le_of_ble_eq_true rfl⟩ dX2_needs_6 rfl (Nat.le_of_ble_eq_true rfl) ⟨Nat.le_of_ble_eq_true rfl, Nat.le_of_ble_eq_true rfl⟩ (fun E_6 V_3 G_4 hx_6 => ?_) (fun V_3 G_4 hq_6 => ?_)
  · skip
    obtain ⟨rfl, n_6, rfl, rfl⟩ := hx_6
    refine hO _ _ _ _ _ _ _ _ ?_ (Nat.le_of_ble_eq_true rfl) (Nat.le_of_ble_eq_true rfl)
    first | exact ⟨q_xc_i (q_c1_1 (fun q => n_6 q.2)) rfl, rfl, rfl⟩
  obtain ⟨p_6, rfl, rfl⟩ := hq_6
  refine q_aload_n C dX2_needs_9 rfl 0 rfl ?_
  refine q_get C (k := 0) (fi := 4) (.ref (σ.2.1 4)) (by omega) q_enBP rfl iX2_needs_X2 (by decide) (by decide +kernel) rfl rfl dX2_needs_10 ?_
  refine q_iload_n C dX2_needs_13 rfl 1 rfl ?_
  refine q_aaldP C (by omega) dX2_needs_14 ?_
  refine q_stk (st' := [.ref (σ.2.1 (27 + (1 + a)))]) (by rw [show 27 + (1 + a) = 28 + a by omega]) ?_
  refine q_iload_n C dX2_needs_15 rfl 2 rfl ?_
  refine q_callNi C (As := [.int y]) (rest := []) (k := 27 + (1 + a)) (q_isG (by omega)).1 (q_enG (by omega)) rfl rfl (kX1_cellsOf l σ V G (i := 1 + a) (by omega) (hp a ha) y) 1 (host := RX2) gX2_needs_X1_cellsOf_n92 rfl rfl rfl (by decide +kernel) (by decide +kernel) (by decide +kernel) (by decide +kernel) (by decide +kernel) ⟨Nat.le_of_ble_eq_true rfl, Nat.le_of_ble_eq_true rfl⟩ dX2_needs_16 rfl (Nat.le_of_ble_eq_true rfl) ⟨Nat.le_of_ble_eq_true rfl, Nat.le_of_ble_eq_true rfl⟩ (fun r_16 V_5 G_6 hq_16 => ?_)
  obtain ⟨rfl, rfl, rfl⟩ := hq_16
  refine hR _ _ _ _ _ _ _ ?_ rfl (Nat.le_of_ble_eq_true rfl) (Nat.le_of_ble_eq_true rfl) dX2_needs_19
  rw [q_n_nI (n := a) (by omega)]
  exact ⟨q_c1_0 ⟨q_ok_nI ha, p_6⟩, rfl, rfl, rfl⟩
abbrev rX2_beads : Room := { frames := 7, cells := 6, slots := 36, locals := 110 }
theorem iX2_beads_X2 : ∀ w ∈ u_ws RX2 TX2 15, w ∈ wsX2_beads := by decide +kernel
set_option maxHeartbeats 4000000 in
set_option maxRecDepth 100000 in
/-- beads -/
theorem kX2_beads (l : Launch) (σ : q_E) (V : q_V) (G : q_G) (hlf : l.stackTraces = false) {n : Nat} (hn2 : n ≤ 12) (hp : q_cpats V n) (hbl : q_cbelts V n) (y : Int32) : q_Xi l yX2_beads wsX2_beads rX2_beads σ [.ref (σ.2.1 0), .int y] V G (fun r V' G' => (q_c1 (q_ok 8 y)) = 0 ∧ (q_cbs V (q_n y) 20) = r ∧ V = V' ∧ G = G') ((fun E V' G' => q_xc [xI] (q_c1 (q_ok 8 y)) E ∧ V = V' ∧ G = G')) 6 36 := by
  refine q_Xi_of (cc := cX2_beads) (maxL := 4) (lv := [(0, .ref (σ.2.1 0)), (1, .int y)]) (by decide +kernel) rfl (Nat.le_of_ble_eq_true rfl) rfl ?_
  intro p e s m args below meth c Q C hR hO T
  refine q_iload_n C dX2_beads_0 rfl 1 rfl ?_
  refine q_xcallSv C (As := [.int y]) (rest := []) (kX2_checkColour l σ V G hlf y) 1 gX2_beads_X2_checkColour rfl rfl rfl (by decide +kernel) ⟨Nat.le_of_ble_eq_true rfl, Nat.le_of_ble_eq_true rfl⟩ dX2_beads_1 rfl (Nat.le_of_ble_eq_true rfl) ⟨Nat.le_of_ble_eq_true rfl, Nat.le_of_ble_eq_true rfl⟩ (fun E_1 V_1 G_2 hx_1 => ?_) (fun V_1 G_2 hq_1 => ?_)
  · skip
    obtain ⟨rfl, n_1, rfl, rfl⟩ := hx_1
    refine hO _ _ _ _ _ _ _ _ ?_ (Nat.le_of_ble_eq_true rfl) (Nat.le_of_ble_eq_true rfl)
    first | exact ⟨q_xc_i (q_c1_1 n_1) rfl, rfl, rfl⟩
  obtain ⟨p_1, rfl, rfl⟩ := hq_1
  obtain ⟨cc, hcc, rfl⟩ := p_1
  refine q_aload_n C dX2_beads_4 rfl 0 rfl ?_
  refine q_get C (k := 0) (fi := 1) (.ref (σ.2.1 2)) (by omega) q_enBP rfl iX2_beads_X2 (by decide) (by decide +kernel) rfl rfl dX2_beads_5 ?_
  refine q_iload_n C dX2_beads_8 rfl 1 rfl ?_
  refine q_ialdN C (k := 2) (n := 8) ⟨by decide, by decide, by decide⟩ (by omega) (by decide) dX2_beads_9 ?_
  refine q_istore_n C [(2, .int (V 2 cc)), (0, .ref (σ.2.1 0)), (1, .int (nI cc))] dX2_beads_10 rfl (by decide) rfl ?_
  refine q_iconst C (nI 0) dX2_beads_11 (by decide) ?_
  refine q_istore_n C [(3, .int (nI 0)), (2, .int (V 2 cc)), (0, .ref (σ.2.1 0)), (1, .int (nI cc))] dX2_beads_12 rfl (by decide) rfl ?_
  have L_3 : ∀ (nL_3 : Nat) (j : Nat) (hj : j ≤ 7), 7 - j < nL_3 → q_W σ p l e rX2_beads s m args below meth c Q 4 1 6 V G [(2, .int (q_chs2 V cc j)), (3, .int (nI j)), (0, .ref (σ.2.1 0)), (1, .int (nI cc))] 13 [] := by
    intro nL_3
    induction nL_3 with
    | zero => intro j hj h; exact absurd h (Nat.not_lt_zero _)
    | succ nL_3 ihL_3 =>
      intro j hj hmL_3
      refine q_iload_n C dX2_beads_13 rfl 1 rfl ?_
      refine q_bipush C (nI 7) dX2_beads_14 (by decide) ?_
      refine q_icmp_geN C 36 dX2_beads_16 (by decide) (by omega) (by omega) (fun c_16 => ?_) (fun c_16 => ?_)
      · skip
        refine q_iconst C (nI 0) dX2_beads_36 (by decide) ?_
        refine q_istore_n C [(3, .int (nI 0)), (2, .int (q_chs2 V cc j)), (0, .ref (σ.2.1 0)), (1, .int (nI cc))] dX2_beads_37 rfl (by decide) rfl ?_
        have L_4 : ∀ (nL_4 : Nat) (j : Nat) (s9 : Int32) (hj : j ≤ 20) (hs9 : s9 = q_cbs V cc j), 20 - j < nL_4 → q_W σ p l e rX2_beads s m args below meth c Q 4 1 6 V G [(2, .int s9), (3, .int (nI j)), (0, .ref (σ.2.1 0)), (1, .int (nI cc))] 38 [] := by
          intro nL_4
          induction nL_4 with
          | zero => intro j s9 hj hs9 h; exact absurd h (Nat.not_lt_zero _)
          | succ nL_4 ihL_4 =>
            intro j s9 hj hs9 hmL_4
            refine q_iload_n C dX2_beads_38 rfl 1 rfl ?_
            refine q_bipush C (nI 20) dX2_beads_39 (by decide) ?_
            refine q_icmp_geN C 76 dX2_beads_41 (by decide) (by omega) (by omega) (fun c_41 => ?_) (fun c_41 => ?_)
            · skip
              refine q_iload_n C dX2_beads_76 rfl 0 rfl ?_
              refine hR _ _ _ _ _ _ _ ?_ rfl (Nat.le_of_ble_eq_true rfl) (Nat.le_of_ble_eq_true rfl) dX2_beads_77
              obtain rfl : j = 20 := by omega
              rw [hs9]
              rw [q_n_nI (n := cc) (by omega)]
              exact ⟨q_c1_0 (q_ok_nI hcc), rfl, rfl, rfl⟩
            · skip
              refine q_aload_n C dX2_beads_44 rfl 2 rfl ?_
              refine q_iload_n C dX2_beads_45 rfl 1 rfl ?_
              refine q_callVi C (As := [.int (nI j)]) (rest := []) (k := 0) (by omega) q_enBP rfl rfl (kX2_isBelt l σ V G (nI j)) 1 gX2_beads_X2_isBelt rfl rfl rfl (by decide +kernel) ⟨Nat.le_of_ble_eq_true rfl, Nat.le_of_ble_eq_true rfl⟩ dX2_beads_46 rfl (Nat.le_of_ble_eq_true rfl) ⟨Nat.le_of_ble_eq_true rfl, Nat.le_of_ble_eq_true rfl⟩ (fun r_46 V_5 G_6 hq_46 => ?_)
              obtain ⟨hs_46, rfl, rfl⟩ := hq_46
              refine q_if_eq C 70 dX2_beads_49 (by decide) (fun c_49 => ?_) (fun c_49 => ?_)
              · skip
                have b_46 := (q_is_eq hs_46).mp c_49
                have hb9 : V 6 j = -1 := Classical.byContradiction fun z => b_46 ⟨j, by omega, rfl, z⟩
                refine q_iincN C [(3, .int (nI (j + 1))), (2, .int s9), (0, .ref (σ.2.1 0)), (1, .int (nI cc))] dX2_beads_70 1 rfl (by decide) rfl ?_
                refine q_goto C 38 dX2_beads_73 (by decide) ?_
                refine q_sub (lv' := [(2, .int s9), (3, .int (nI (j + 1))), (0, .ref (σ.2.1 0)), (1, .int (nI cc))]) [1, 0, 2, 3] rfl ?_
                exact ihL_4 (j + 1) _ (by omega) (by rw [hs9]; show _ = q_cbs V cc j + q_cbelt V j (nI cc); first | (rw [q_cbelt_n hb9, Int32.add_zero] <;> rfl) | (rw [q_cbelt_y hb9 hpe (by omega)] <;> rfl)) (by omega)
              · skip
                have b_46 := (q_is_ne hs_46).mp c_49
                have hb9 : ¬ V 6 j = -1 := by
                  obtain ⟨b, hb, e9, h9⟩ := b_46
                  rw [q_nI_inj e9 (by omega) (by omega)]
                  exact h9
                obtain ⟨pa, hpa, hpe⟩ := (hbl j (by omega)).resolve_left hb9
                refine q_iload_n C dX2_beads_52 rfl 0 rfl ?_
                refine q_aload_n C dX2_beads_53 rfl 2 rfl ?_
                refine q_get C (k := 0) (fi := 4) (.ref (σ.2.1 4)) (by omega) q_enBP rfl iX2_beads_X2 (by decide) (by decide +kernel) rfl rfl dX2_beads_54 ?_
                refine q_aload_n C dX2_beads_57 rfl 2 rfl ?_
                refine q_get C (k := 0) (fi := 7) (.ref (σ.2.1 6)) (by omega) q_enBP rfl iX2_beads_X2 (by decide) (by decide +kernel) rfl rfl dX2_beads_58 ?_
                refine q_iload_n C dX2_beads_61 rfl 1 rfl ?_
                refine q_ialdN C (k := 6) (n := 20) ⟨by decide, by decide, by decide⟩ (by omega) (by decide) dX2_beads_62 ?_
                refine q_stk (st' := [.int (nI pa), .ref (σ.2.1 4), .int s9]) (congrArg (fun z => Value.int z :: [.ref (σ.2.1 4), .int s9]) (hpe)) ?_
                refine q_aaldP C (by omega) dX2_beads_63 ?_
                refine q_stk (st' := [.ref (σ.2.1 (27 + (1 + pa))), .int s9]) (by rw [show 27 + (1 + pa) = 28 + pa by omega]) ?_
                refine q_iload_n C dX2_beads_64 rfl 3 rfl ?_
                refine q_callNi C (As := [.int (nI cc)]) (rest := [.int s9]) (k := 27 + (1 + pa)) (q_isG (by omega)).1 (q_enG (by omega)) rfl rfl (kX1_cellsOf l σ V G (i := 1 + pa) (by omega) (hp pa hpa) (nI cc)) 1 (host := RX2) gX2_beads_X1_cellsOf_n92 rfl rfl rfl (by decide +kernel) (by decide +kernel) (by decide +kernel) (by decide +kernel) (by decide +kernel) ⟨Nat.le_of_ble_eq_true rfl, Nat.le_of_ble_eq_true rfl⟩ dX2_beads_65 rfl (Nat.le_of_ble_eq_true rfl) ⟨Nat.le_of_ble_eq_true rfl, Nat.le_of_ble_eq_true rfl⟩ (fun r_65 V_7 G_8 hq_65 => ?_)
                obtain ⟨rfl, rfl, rfl⟩ := hq_65
                refine q_iadd C dX2_beads_68 ?_
                refine q_istore_n C [(2, .int (s9 + ((nI (q_cneeds V pa (nI cc)))))), (3, .int (nI j)), (0, .ref (σ.2.1 0)), (1, .int (nI cc))] dX2_beads_69 rfl (by decide) rfl ?_
                refine q_iincN C [(3, .int (nI (j + 1))), (2, .int (s9 + ((nI (q_cneeds V pa (nI cc)))))), (0, .ref (σ.2.1 0)), (1, .int (nI cc))] dX2_beads_70 1 rfl (by decide) rfl ?_
                refine q_goto C 38 dX2_beads_73 (by decide) ?_
                refine q_sub (lv' := [(2, .int (s9 + ((nI (q_cneeds V pa (nI cc)))))), (3, .int (nI (j + 1))), (0, .ref (σ.2.1 0)), (1, .int (nI cc))]) [1, 0, 2, 3] rfl ?_
                exact ihL_4 (j + 1) _ (by omega) (by rw [hs9]; show _ = q_cbs V cc j + q_cbelt V j (nI cc); first | (rw [q_cbelt_n hb9, Int32.add_zero] <;> rfl) | (rw [q_cbelt_y hb9 hpe (by omega)] <;> rfl)) (by omega)
        refine q_sub (lv' := [(2, .int (q_chs2 V cc j)), (3, .int (nI 0)), (0, .ref (σ.2.1 0)), (1, .int (nI cc))]) [1, 0, 2, 3] rfl ?_
        exact L_4 _ 0 _ (Nat.zero_le _) (by rw [show j = 7 by omega]; rfl) (Nat.lt_succ_self _)
      · skip
        refine q_iload_n C dX2_beads_19 rfl 0 rfl ?_
        refine q_aload_n C dX2_beads_20 rfl 2 rfl ?_
        refine q_get C (k := 0) (fi := 0) (.ref (σ.2.1 1)) (by omega) q_enBP rfl iX2_beads_X2 (by decide) (by decide +kernel) rfl rfl dX2_beads_21 ?_
        refine q_iload_n C dX2_beads_24 rfl 1 rfl ?_
        refine q_aaldH C (by omega) dX2_beads_25 ?_
        refine q_iload_n C dX2_beads_26 rfl 3 rfl ?_
        refine q_ialdN C (k := 20 + j) (q_isI_hand (by omega)) (by omega) (by decide) dX2_beads_27 ?_
        refine q_iadd C dX2_beads_28 ?_
        refine q_istore_n C [(2, .int ((q_chs2 V cc j) + (V (20 + j) cc))), (3, .int (nI j)), (0, .ref (σ.2.1 0)), (1, .int (nI cc))] dX2_beads_29 rfl (by decide) rfl ?_
        refine q_iincN C [(3, .int (nI (j + 1))), (2, .int ((q_chs2 V cc j) + (V (20 + j) cc))), (0, .ref (σ.2.1 0)), (1, .int (nI cc))] dX2_beads_30 1 rfl (by decide) rfl ?_
        refine q_goto C 13 dX2_beads_33 (by decide) ?_
        refine q_sub (lv' := [(2, .int ((q_chs2 V cc j) + (V (20 + j) cc))), (3, .int (nI (j + 1))), (0, .ref (σ.2.1 0)), (1, .int (nI cc))]) [1, 0, 2, 3] rfl ?_
        exact ihL_3 (j + 1) (by omega) (by omega)
  refine q_sub (lv' := [(2, .int (V 2 cc)), (3, .int (nI 0)), (0, .ref (σ.2.1 0)), (1, .int (nI cc))]) [1, 0, 2, 3] rfl ?_
  exact L_3 _ 0 (Nat.zero_le _) (Nat.lt_succ_self _)
abbrev rX2_give : Room := { frames := 7, cells := 6, slots := 36, locals := 111 }
theorem iX2_give_X2 : ∀ w ∈ u_ws RX2 TX2 15, w ∈ wsX2_give := by decide +kernel
set_option maxHeartbeats 4000000 in
set_option maxRecDepth 100000 in
/-- give -/
theorem kX2_give (l : Launch) (σ : q_E) (V : q_V) (G : q_G) (hlf : l.stackTraces = false)  (x y : Int32) : q_Xi l yX2_give wsX2_give rX2_give σ [.ref (σ.2.1 0), .int x, .int y] V G (fun r V' G' => (q_c1 ((q_cisb V x) ∧ q_ok 7 y)) = 0 ∧ (V 7 (q_n x)) = r ∧ (q_up V 7 (q_n x) y) = V' ∧ G = G') ((fun E V' G' => q_xc [xI] (q_c1 ((q_cisb V x) ∧ q_ok 7 y)) E ∧ V = V' ∧ G = G')) 6 36 := by
  refine q_Xi_of (cc := cX2_give) (maxL := 4) (lv := [(0, .ref (σ.2.1 0)), (1, .int x), (2, .int y)]) (by decide +kernel) rfl (Nat.le_of_ble_eq_true rfl) rfl ?_
  intro p e s m args below meth c Q C hR hO T
  refine q_aload_n C dX2_give_0 rfl 0 rfl ?_
  refine q_iload_n C dX2_give_1 rfl 1 rfl ?_
  refine q_xcallVv C (As := [.int x]) (rest := []) (k := 0) (by omega) q_enBP rfl rfl (kX2_checkBelt l σ V G hlf x) 1 gX2_give_X2_checkBelt rfl rfl rfl (by decide +kernel) ⟨Nat.le_of_ble_eq_true rfl, Nat.le_of_ble_eq_true rfl⟩ dX2_give_2 rfl (Nat.le_of_ble_eq_true rfl) ⟨Nat.le_of_ble_eq_true rfl, Nat.le_of_ble_eq_true rfl⟩ (fun E_2 V_1 G_2 hx_2 => ?_) (fun V_1 G_2 hq_2 => ?_)
  · skip
    obtain ⟨rfl, n_2, rfl, rfl⟩ := hx_2
    refine hO _ _ _ _ _ _ _ _ ?_ (Nat.le_of_ble_eq_true rfl) (Nat.le_of_ble_eq_true rfl)
    first | exact ⟨q_xc_i (q_c1_1 (fun q => n_2 q.1)) rfl, rfl, rfl⟩
  obtain ⟨p_2, rfl, rfl⟩ := hq_2
  obtain ⟨b, hb, rfl, hb9⟩ := p_2
  refine q_iload_n C dX2_give_5 rfl 2 rfl ?_
  refine q_xcallSv C (As := [.int y]) (rest := []) (kX2_checkPerson l σ V G hlf y) 1 gX2_give_X2_checkPerson rfl rfl rfl (by decide +kernel) ⟨Nat.le_of_ble_eq_true rfl, Nat.le_of_ble_eq_true rfl⟩ dX2_give_6 rfl (Nat.le_of_ble_eq_true rfl) ⟨Nat.le_of_ble_eq_true rfl, Nat.le_of_ble_eq_true rfl⟩ (fun E_6 V_3 G_4 hx_6 => ?_) (fun V_3 G_4 hq_6 => ?_)
  · skip
    obtain ⟨rfl, n_6, rfl, rfl⟩ := hx_6
    refine hO _ _ _ _ _ _ _ _ ?_ (Nat.le_of_ble_eq_true rfl) (Nat.le_of_ble_eq_true rfl)
    first | exact ⟨q_xc_i (q_c1_1 (fun q => n_6 q.2)) rfl, rfl, rfl⟩
  obtain ⟨p_6, rfl, rfl⟩ := hq_6
  refine q_aload_n C dX2_give_9 rfl 0 rfl ?_
  refine q_get C (k := 0) (fi := 8) (.ref (σ.2.1 7)) (by omega) q_enBP rfl iX2_give_X2 (by decide) (by decide +kernel) rfl rfl dX2_give_10 ?_
  refine q_iload_n C dX2_give_13 rfl 1 rfl ?_
  refine q_ialdN C (k := 7) (n := 20) ⟨by decide, by decide, by decide⟩ (by omega) (by decide) dX2_give_14 ?_
  refine q_istore_n C [(3, .int (V 7 b)), (0, .ref (σ.2.1 0)), (1, .int (nI b)), (2, .int y)] dX2_give_15 rfl (by decide) rfl ?_
  refine q_aload_n C dX2_give_16 rfl 1 rfl ?_
  refine q_get C (k := 0) (fi := 8) (.ref (σ.2.1 7)) (by omega) q_enBP rfl iX2_give_X2 (by decide) (by decide +kernel) rfl rfl dX2_give_17 ?_
  refine q_iload_n C dX2_give_20 rfl 2 rfl ?_
  refine q_iload_n C dX2_give_21 rfl 3 rfl ?_
  refine q_iastN C (k := 7) (n := 20) ⟨by decide, by decide, by decide⟩ (by omega) (by decide) dX2_give_22 ?_
  refine q_iload_n C dX2_give_23 rfl 0 rfl ?_
  refine hR _ _ _ _ _ _ _ ?_ rfl (Nat.le_of_ble_eq_true rfl) (Nat.le_of_ble_eq_true rfl) dX2_give_24
  rw [q_n_nI (n := b) (by omega)]
  exact ⟨q_c1_0 ⟨⟨b, hb, rfl, hb9⟩, p_6⟩, rfl, rfl, rfl⟩
abbrev rX2_owner : Room := { frames := 7, cells := 6, slots := 36, locals := 111 }
theorem iX2_owner_X2 : ∀ w ∈ u_ws RX2 TX2 15, w ∈ wsX2_owner := by decide +kernel
set_option maxHeartbeats 4000000 in
set_option maxRecDepth 100000 in
/-- owner -/
theorem kX2_owner (l : Launch) (σ : q_E) (V : q_V) (G : q_G) (hlf : l.stackTraces = false)  (x : Int32) : q_Xi l yX2_owner wsX2_owner rX2_owner σ [.ref (σ.2.1 0), .int x] V G (fun r V' G' => (q_c1 (q_cisb V x)) = 0 ∧ (V 7 (q_n x)) = r ∧ V = V' ∧ G = G') ((fun E V' G' => q_xc [xI] (q_c1 (q_cisb V x)) E ∧ V = V' ∧ G = G')) 6 36 := by
  refine q_Xi_of (cc := cX2_owner) (maxL := 2) (lv := [(0, .ref (σ.2.1 0)), (1, .int x)]) (by decide +kernel) rfl (Nat.le_of_ble_eq_true rfl) rfl ?_
  intro p e s m args below meth c Q C hR hO T
  refine q_aload_n C dX2_owner_0 rfl 0 rfl ?_
  refine q_iload_n C dX2_owner_1 rfl 1 rfl ?_
  refine q_xcallVv C (As := [.int x]) (rest := []) (k := 0) (by omega) q_enBP rfl rfl (kX2_checkBelt l σ V G hlf x) 1 gX2_owner_X2_checkBelt rfl rfl rfl (by decide +kernel) ⟨Nat.le_of_ble_eq_true rfl, Nat.le_of_ble_eq_true rfl⟩ dX2_owner_2 rfl (Nat.le_of_ble_eq_true rfl) ⟨Nat.le_of_ble_eq_true rfl, Nat.le_of_ble_eq_true rfl⟩ (fun E_2 V_1 G_2 hx_2 => ?_) (fun V_1 G_2 hq_2 => ?_)
  · skip
    obtain ⟨rfl, n_2, rfl, rfl⟩ := hx_2
    refine hO _ _ _ _ _ _ _ _ ?_ (Nat.le_of_ble_eq_true rfl) (Nat.le_of_ble_eq_true rfl)
    first | exact ⟨q_xc_i (q_c1_1 n_2) rfl, rfl, rfl⟩
  obtain ⟨p_2, rfl, rfl⟩ := hq_2
  obtain ⟨b, hb, rfl, hb9⟩ := p_2
  refine q_aload_n C dX2_owner_5 rfl 0 rfl ?_
  refine q_get C (k := 0) (fi := 8) (.ref (σ.2.1 7)) (by omega) q_enBP rfl iX2_owner_X2 (by decide) (by decide +kernel) rfl rfl dX2_owner_6 ?_
  refine q_iload_n C dX2_owner_9 rfl 1 rfl ?_
  refine q_ialdN C (k := 7) (n := 20) ⟨by decide, by decide, by decide⟩ (by omega) (by decide) dX2_owner_10 ?_
  refine hR _ _ _ _ _ _ _ ?_ rfl (Nat.le_of_ble_eq_true rfl) (Nat.le_of_ble_eq_true rfl) dX2_owner_11
  rw [q_n_nI (n := b) (by omega)]
  exact ⟨q_c1_0 ⟨b, hb, rfl, hb9⟩, rfl, rfl, rfl⟩
abbrev rX2_wish : Room := { frames := 7, cells := 6, slots := 36, locals := 110 }
theorem iX2_wish_X2 : ∀ w ∈ u_ws RX2 TX2 15, w ∈ wsX2_wish := by decide +kernel
set_option maxHeartbeats 4000000 in
set_option maxRecDepth 100000 in
/-- wish -/
theorem kX2_wish (l : Launch) (σ : q_E) (V : q_V) (G : q_G) (hlf : l.stackTraces = false)  (x y z : Int32) : q_Xi l yX2_wish wsX2_wish rX2_wish σ [.ref (σ.2.1 0), .int x, .int y, .int z] V G (fun r V' G' => (q_c2 (q_ok 7 x ∧ q_ok 8 y ∧ q_ok 8 z) (¬ y = z)) = 0 ∧ q_is (¬ V 13 (q_n x) = -1) r ∧ q_up (q_up V 13 (q_n x) y) 14 (q_n x) z = V' ∧ G = G') ((fun E V' G' => q_xc [xI, xA] (q_c2 (q_ok 7 x ∧ q_ok 8 y ∧ q_ok 8 z) (¬ y = z)) E ∧ V = V' ∧ G = G')) 6 36 := by
  refine q_Xi_of (cc := cX2_wish) (maxL := 5) (lv := [(0, .ref (σ.2.1 0)), (1, .int x), (2, .int y), (3, .int z)]) (by decide +kernel) rfl (Nat.le_of_ble_eq_true rfl) rfl ?_
  intro p e s m args below meth c Q C hR hO T
  refine q_iload_n C dX2_wish_0 rfl 1 rfl ?_
  refine q_xcallSv C (As := [.int x]) (rest := []) (kX2_checkPerson l σ V G hlf x) 1 gX2_wish_X2_checkPerson rfl rfl rfl (by decide +kernel) ⟨Nat.le_of_ble_eq_true rfl, Nat.le_of_ble_eq_true rfl⟩ dX2_wish_1 rfl (Nat.le_of_ble_eq_true rfl) ⟨Nat.le_of_ble_eq_true rfl, Nat.le_of_ble_eq_true rfl⟩ (fun E_1 V_1 G_2 hx_1 => ?_) (fun V_1 G_2 hq_1 => ?_)
  · skip
    obtain ⟨rfl, n_1, rfl, rfl⟩ := hx_1
    refine hO _ _ _ _ _ _ _ _ ?_ (Nat.le_of_ble_eq_true rfl) (Nat.le_of_ble_eq_true rfl)
    first | exact ⟨q_xc_i (q_c2_1 (fun q => n_1 q.1)) rfl, rfl, rfl⟩
  obtain ⟨p_1, rfl, rfl⟩ := hq_1
  obtain ⟨a, ha, rfl⟩ := p_1
  refine q_iload_n C dX2_wish_4 rfl 2 rfl ?_
  refine q_xcallSv C (As := [.int y]) (rest := []) (kX2_checkColour l σ V G hlf y) 1 gX2_wish_X2_checkColour rfl rfl rfl (by decide +kernel) ⟨Nat.le_of_ble_eq_true rfl, Nat.le_of_ble_eq_true rfl⟩ dX2_wish_5 rfl (Nat.le_of_ble_eq_true rfl) ⟨Nat.le_of_ble_eq_true rfl, Nat.le_of_ble_eq_true rfl⟩ (fun E_5 V_3 G_4 hx_5 => ?_) (fun V_3 G_4 hq_5 => ?_)
  · skip
    obtain ⟨rfl, n_5, rfl, rfl⟩ := hx_5
    refine hO _ _ _ _ _ _ _ _ ?_ (Nat.le_of_ble_eq_true rfl) (Nat.le_of_ble_eq_true rfl)
    first | exact ⟨q_xc_i (q_c2_1 (fun q => n_5 q.2.1)) rfl, rfl, rfl⟩
  obtain ⟨p_5, rfl, rfl⟩ := hq_5
  refine q_iload_n C dX2_wish_8 rfl 3 rfl ?_
  refine q_xcallSv C (As := [.int z]) (rest := []) (kX2_checkColour l σ V G hlf z) 1 gX2_wish_X2_checkColour rfl rfl rfl (by decide +kernel) ⟨Nat.le_of_ble_eq_true rfl, Nat.le_of_ble_eq_true rfl⟩ dX2_wish_9 rfl (Nat.le_of_ble_eq_true rfl) ⟨Nat.le_of_ble_eq_true rfl, Nat.le_of_ble_eq_true rfl⟩ (fun E_9 V_5 G_6 hx_9 => ?_) (fun V_5 G_6 hq_9 => ?_)
  · skip
    obtain ⟨rfl, n_9, rfl, rfl⟩ := hx_9
    refine hO _ _ _ _ _ _ _ _ ?_ (Nat.le_of_ble_eq_true rfl) (Nat.le_of_ble_eq_true rfl)
    first | exact ⟨q_xc_i (q_c2_1 (fun q => n_9 q.2.2)) rfl, rfl, rfl⟩
  obtain ⟨p_9, rfl, rfl⟩ := hq_9
  refine q_iload_n C dX2_wish_12 rfl 2 rfl ?_
  refine q_iload_n C dX2_wish_13 rfl 3 rfl ?_
  refine q_icmp_ne C 27 dX2_wish_14 (by decide) (fun c_14 => ?_) (fun c_14 => ?_)
  · skip
    refine q_aload_n C dX2_wish_27 rfl 0 rfl ?_
    refine q_get C (k := 0) (fi := 10) (.ref (σ.2.1 9)) (by omega) q_enBP rfl iX2_wish_X2 (by decide) (by decide +kernel) rfl rfl dX2_wish_28 ?_
    refine q_iload_n C dX2_wish_31 rfl 1 rfl ?_
    refine q_callNi C (As := [.int (nI a)]) (rest := []) (k := 9) (by omega) q_enBA rfl rfl (kX0_hasWish l σ V G (a := a) (by omega)) 1 (host := RX2) gX2_wish_X0_hasWish_n155 rfl rfl rfl (by decide +kernel) (by decide +kernel) (by decide +kernel) (by decide +kernel) (by decide +kernel) ⟨Nat.le_of_ble_eq_true rfl, Nat.le_of_ble_eq_true rfl⟩ dX2_wish_32 rfl (Nat.le_of_ble_eq_true rfl) ⟨Nat.le_of_ble_eq_true rfl, Nat.le_of_ble_eq_true rfl⟩ (fun r_32 V_7 G_8 hq_32 => ?_)
    obtain ⟨hs_32, rfl, rfl⟩ := hq_32
    refine q_istore C [(4, .int r_32), (0, .ref (σ.2.1 0)), (1, .int (nI a)), (2, .int y), (3, .int z)] dX2_wish_35 (by decide) rfl ?_
    refine q_aload_n C dX2_wish_37 rfl 1 rfl ?_
    refine q_get C (k := 0) (fi := 10) (.ref (σ.2.1 9)) (by omega) q_enBP rfl iX2_wish_X2 (by decide) (by decide +kernel) rfl rfl dX2_wish_38 ?_
    refine q_iload_n C dX2_wish_41 rfl 2 rfl ?_
    refine q_iload_n C dX2_wish_42 rfl 3 rfl ?_
    refine q_iload_n C dX2_wish_43 rfl 4 rfl ?_
    refine q_callNv C (As := [.int (nI a), .int y, .int z]) (rest := []) (k := 9) (by omega) q_enBA rfl rfl (kX0_setWish l σ V G (a := a) (by omega) y z) 3 (host := RX2) gX2_wish_X0_setWish_n158 rfl rfl rfl (by decide +kernel) (by decide +kernel) (by decide +kernel) (by decide +kernel) (by decide +kernel) ⟨Nat.le_of_ble_eq_true rfl, Nat.le_of_ble_eq_true rfl⟩ dX2_wish_44 rfl (Nat.le_of_ble_eq_true rfl) ⟨Nat.le_of_ble_eq_true rfl, Nat.le_of_ble_eq_true rfl⟩ (fun V_9 G_10 hq_44 => ?_)
    obtain ⟨rfl, rfl⟩ := hq_44
    refine q_iload C dX2_wish_47 0 rfl ?_
    refine hR _ _ _ _ _ _ _ ?_ (q_is_nar hs_32) (Nat.le_of_ble_eq_true rfl) (Nat.le_of_ble_eq_true rfl) dX2_wish_49
    rw [q_n_nI (n := a) (by omega)]
    exact ⟨q_c2_0 ⟨q_ok_nI ha, p_5, p_9⟩ c_14, hs_32, rfl, rfl⟩
  · skip
    refine q_throw C "java/lang/IllegalArgumentException" "the same colour for itself" T hlf rfl (by decide +kernel) (by decide +kernel) (by decide +kernel) (by decide +kernel) (by decide +kernel) (by decide +kernel) dX2_wish_17 dX2_wish_20 dX2_wish_21 dX2_wish_23 dX2_wish_26 (Nat.le_of_ble_eq_true rfl) (Nat.le_of_ble_eq_true rfl) (Nat.le_of_ble_eq_true rfl) (Nat.le_of_ble_eq_true rfl) (Nat.le_of_ble_eq_true rfl) (Nat.le_of_ble_eq_true rfl) ?_
    first | exact ⟨q_xc_i (q_c2_2 ⟨q_ok_nI ha, p_5, p_9⟩ (fun q => q c_14)) rfl, rfl, rfl⟩
abbrev rX2_unwish : Room := { frames := 7, cells := 6, slots := 36, locals := 110 }
theorem iX2_unwish_X2 : ∀ w ∈ u_ws RX2 TX2 15, w ∈ wsX2_unwish := by decide +kernel
set_option maxHeartbeats 4000000 in
set_option maxRecDepth 100000 in
/-- unwish -/
theorem kX2_unwish (l : Launch) (σ : q_E) (V : q_V) (G : q_G) (hlf : l.stackTraces = false)  (x : Int32) : q_Xi l yX2_unwish wsX2_unwish rX2_unwish σ [.ref (σ.2.1 0), .int x] V G (fun r V' G' => (q_c1 (q_ok 7 x)) = 0 ∧ q_is (¬ V 13 (q_n x) = -1) r ∧ q_up (q_up V 13 (q_n x) (-1)) 14 (q_n x) (-1) = V' ∧ G = G') ((fun E V' G' => q_xc [xI] (q_c1 (q_ok 7 x)) E ∧ V = V' ∧ G = G')) 6 36 := by
  refine q_Xi_of (cc := cX2_unwish) (maxL := 3) (lv := [(0, .ref (σ.2.1 0)), (1, .int x)]) (by decide +kernel) rfl (Nat.le_of_ble_eq_true rfl) rfl ?_
  intro p e s m args below meth c Q C hR hO T
  refine q_iload_n C dX2_unwish_0 rfl 1 rfl ?_
  refine q_xcallSv C (As := [.int x]) (rest := []) (kX2_checkPerson l σ V G hlf x) 1 gX2_unwish_X2_checkPerson rfl rfl rfl (by decide +kernel) ⟨Nat.le_of_ble_eq_true rfl, Nat.le_of_ble_eq_true rfl⟩ dX2_unwish_1 rfl (Nat.le_of_ble_eq_true rfl) ⟨Nat.le_of_ble_eq_true rfl, Nat.le_of_ble_eq_true rfl⟩ (fun E_1 V_1 G_2 hx_1 => ?_) (fun V_1 G_2 hq_1 => ?_)
  · skip
    obtain ⟨rfl, n_1, rfl, rfl⟩ := hx_1
    refine hO _ _ _ _ _ _ _ _ ?_ (Nat.le_of_ble_eq_true rfl) (Nat.le_of_ble_eq_true rfl)
    first | exact ⟨q_xc_i (q_c1_1 n_1) rfl, rfl, rfl⟩
  obtain ⟨p_1, rfl, rfl⟩ := hq_1
  obtain ⟨a, ha, rfl⟩ := p_1
  refine q_aload_n C dX2_unwish_4 rfl 0 rfl ?_
  refine q_get C (k := 0) (fi := 10) (.ref (σ.2.1 9)) (by omega) q_enBP rfl iX2_unwish_X2 (by decide) (by decide +kernel) rfl rfl dX2_unwish_5 ?_
  refine q_iload_n C dX2_unwish_8 rfl 1 rfl ?_
  refine q_callNi C (As := [.int (nI a)]) (rest := []) (k := 9) (by omega) q_enBA rfl rfl (kX0_hasWish l σ V G (a := a) (by omega)) 1 (host := RX2) gX2_unwish_X0_hasWish_n155 rfl rfl rfl (by decide +kernel) (by decide +kernel) (by decide +kernel) (by decide +kernel) (by decide +kernel) ⟨Nat.le_of_ble_eq_true rfl, Nat.le_of_ble_eq_true rfl⟩ dX2_unwish_9 rfl (Nat.le_of_ble_eq_true rfl) ⟨Nat.le_of_ble_eq_true rfl, Nat.le_of_ble_eq_true rfl⟩ (fun r_9 V_3 G_4 hq_9 => ?_)
  obtain ⟨hs_9, rfl, rfl⟩ := hq_9
  refine q_istore_n C [(2, .int r_9), (0, .ref (σ.2.1 0)), (1, .int (nI a))] dX2_unwish_12 rfl (by decide) rfl ?_
  refine q_aload_n C dX2_unwish_13 rfl 1 rfl ?_
  refine q_get C (k := 0) (fi := 10) (.ref (σ.2.1 9)) (by omega) q_enBP rfl iX2_unwish_X2 (by decide) (by decide +kernel) rfl rfl dX2_unwish_14 ?_
  refine q_iload_n C dX2_unwish_17 rfl 2 rfl ?_
  refine q_iconst C ((-1)) dX2_unwish_18 (by decide) ?_
  refine q_iconst C ((-1)) dX2_unwish_19 (by decide) ?_
  refine q_callNv C (As := [.int (nI a), .int ((-1)), .int ((-1))]) (rest := []) (k := 9) (by omega) q_enBA rfl rfl (kX0_setWish l σ V G (a := a) (by omega) ((-1)) ((-1))) 3 (host := RX2) gX2_unwish_X0_setWish_n158 rfl rfl rfl (by decide +kernel) (by decide +kernel) (by decide +kernel) (by decide +kernel) (by decide +kernel) ⟨Nat.le_of_ble_eq_true rfl, Nat.le_of_ble_eq_true rfl⟩ dX2_unwish_20 rfl (Nat.le_of_ble_eq_true rfl) ⟨Nat.le_of_ble_eq_true rfl, Nat.le_of_ble_eq_true rfl⟩ (fun V_5 G_6 hq_20 => ?_)
  obtain ⟨rfl, rfl⟩ := hq_20
  refine q_iload_n C dX2_unwish_23 rfl 0 rfl ?_
  refine hR _ _ _ _ _ _ _ ?_ (q_is_nar hs_9) (Nat.le_of_ble_eq_true rfl) (Nat.le_of_ble_eq_true rfl) dX2_unwish_24
  rw [q_n_nI (n := a) (by omega)]
  exact ⟨q_c1_0 (q_ok_nI ha), hs_9, rfl, rfl⟩
abbrev rX2_sign : Room := { frames := 7, cells := 6, slots := 36, locals := 221 }
theorem iX2_sign_X2 : ∀ w ∈ u_ws RX2 TX2 15, w ∈ wsX2_sign := by decide +kernel
theorem iX2_sign_X1 : ∀ w ∈ u_ws RX1 TX1 3, w ∈ wsX2_sign := by decide +kernel
set_option maxHeartbeats 4000000 in
set_option maxRecDepth 100000 in
/-- sign -/
theorem kX2_sign (l : Launch) (σ : q_E) (V : q_V) (G : q_G) (hlf : l.stackTraces = false) {w h : Nat} (hd : q_gok V 0 w h) {ns : Nat} (hs : V 0 13 = nI ns) (hs2 : ns ≤ 8) (x : Int32) : q_Xi l yX2_sign wsX2_sign rX2_sign σ [.ref (σ.2.1 0), .int x] V G (fun r V' G' => (q_c2 (¬ x < nI 1 ∧ ¬ nI 100 < x) (w ≤ 3 ∧ h ≤ 3 ∧ ns ≠ 8)) = 0 ∧ (nI ns) = r ∧ (q_up (q_up (q_cpy (q_up (q_up V (27 + (13 + ns)) 1 (V (27 + 0) 1)) (27 + (13 + ns)) 2 (V (27 + 0) 2)) (48 + 0) (48 + (13 + ns)) 48) 11 ns x) 0 13 (nI (ns + 1))) = V' ∧ G = G') ((fun E V' G' => q_xc [xA, xS] (q_c2 (¬ x < nI 1 ∧ ¬ nI 100 < x) (w ≤ 3 ∧ h ≤ 3 ∧ ns ≠ 8)) E ∧ V = V' ∧ G = G')) 6 36 := by
  refine q_Xi_of (cc := cX2_sign) (maxL := 3) (lv := [(0, .ref (σ.2.1 0)), (1, .int x)]) (by decide +kernel) rfl (Nat.le_of_ble_eq_true rfl) rfl ?_
  intro p e s m args below meth c Q C hR hO T
  have hdd := hd.2.2
  refine q_iload_n C dX2_sign_0 rfl 1 rfl ?_
  refine q_iconst C (nI 1) dX2_sign_1 (by decide) ?_
  refine q_bipush C (nI 100) dX2_sign_2 (by decide) ?_
  refine q_xcallSv C (As := [.int x, .int (nI 1), .int (nI 100)]) (rest := []) (kX2_checkRange l σ V G hlf x (nI 1) (nI 100)) 3 gX2_sign_X2_checkRange rfl rfl rfl (by decide +kernel) ⟨Nat.le_of_ble_eq_true rfl, Nat.le_of_ble_eq_true rfl⟩ dX2_sign_4 rfl (Nat.le_of_ble_eq_true rfl) ⟨Nat.le_of_ble_eq_true rfl, Nat.le_of_ble_eq_true rfl⟩ (fun E_4 V_1 G_2 hx_4 => ?_) (fun V_1 G_2 hq_4 => ?_)
  · skip
    obtain ⟨rfl, n_4, rfl, rfl⟩ := hx_4
    refine hO _ _ _ _ _ _ _ _ ?_ (Nat.le_of_ble_eq_true rfl) (Nat.le_of_ble_eq_true rfl)
    first | exact ⟨q_xc_i (q_c2_1 n_4) rfl, rfl, rfl⟩
  obtain ⟨p_4, rfl, rfl⟩ := hq_4
  refine q_aload_n C dX2_sign_7 rfl 0 rfl ?_
  refine q_get C (k := 0) (fi := 3) (.ref (σ.2.1 (27 + 0))) (by omega) q_enBP rfl iX2_sign_X2 (by decide) (by decide +kernel) rfl rfl dX2_sign_8 ?_
  refine q_getN C (host := RX2) (k := 27 + 0) (fi := 1) (.int (nI w)) (q_isG (by omega)).1 (q_enG (by omega)) rfl iX2_sign_X1 (by decide) (by decide +kernel) rfl (by rw [← hd.1]; rfl) dX2_sign_11 ?_
  refine q_iconst C (nI 3) dX2_sign_14 (by decide) ?_
  refine q_icmp_gtN C 29 dX2_sign_15 (by decide) (by omega) (by omega) (fun c_15 => ?_) (fun c_15 => ?_)
  · skip
    refine q_throw C "java/lang/IllegalStateException" "the draft is too large for a sign" T hlf rfl (by decide +kernel) (by decide +kernel) (by decide +kernel) (by decide +kernel) (by decide +kernel) (by decide +kernel) dX2_sign_29 dX2_sign_32 dX2_sign_33 dX2_sign_35 dX2_sign_38 (Nat.le_of_ble_eq_true rfl) (Nat.le_of_ble_eq_true rfl) (Nat.le_of_ble_eq_true rfl) (Nat.le_of_ble_eq_true rfl) (Nat.le_of_ble_eq_true rfl) (Nat.le_of_ble_eq_true rfl) ?_
    first | exact ⟨q_xc_i (q_c2_2 p_4 (fun q => by omega)) rfl, rfl, rfl⟩
  · skip
    refine q_aload_n C dX2_sign_18 rfl 0 rfl ?_
    refine q_get C (k := 0) (fi := 3) (.ref (σ.2.1 (27 + 0))) (by omega) q_enBP rfl iX2_sign_X2 (by decide) (by decide +kernel) rfl rfl dX2_sign_19 ?_
    refine q_getN C (host := RX2) (k := 27 + 0) (fi := 2) (.int (nI h)) (q_isG (by omega)).1 (q_enG (by omega)) rfl iX2_sign_X1 (by decide) (by decide +kernel) rfl (by rw [← hd.2.1]; rfl) dX2_sign_22 ?_
    refine q_iconst C (nI 3) dX2_sign_25 (by decide) ?_
    refine q_icmp_leN C 39 dX2_sign_26 (by decide) (by omega) (by omega) (fun c_26 => ?_) (fun c_26 => ?_)
    · skip
      refine q_aload_n C dX2_sign_39 rfl 0 rfl ?_
      refine q_get C (k := 0) (fi := 13) (.int (nI ns)) (by omega) q_enBP rfl iX2_sign_X2 (by decide) (by decide +kernel) rfl (congrArg (fun z => some (Value.int z)) (hs)) dX2_sign_40 ?_
      refine q_bipush C (nI 8) dX2_sign_43 (by decide) ?_
      refine q_icmp_ltN C 58 dX2_sign_45 (by decide) (by omega) (by omega) (fun c_45 => ?_) (fun c_45 => ?_)
      · skip
        refine q_aload_n C dX2_sign_58 rfl 0 rfl ?_
        refine q_get C (k := 0) (fi := 13) (.int (nI ns)) (by omega) q_enBP rfl iX2_sign_X2 (by decide) (by decide +kernel) rfl (congrArg (fun z => some (Value.int z)) (hs)) dX2_sign_59 ?_
        refine q_istore_n C [(2, .int (nI ns)), (0, .ref (σ.2.1 0)), (1, .int x)] dX2_sign_62 rfl (by decide) rfl ?_
        refine q_aload_n C dX2_sign_63 rfl 1 rfl ?_
        refine q_get C (k := 0) (fi := 11) (.ref (σ.2.1 10)) (by omega) q_enBP rfl iX2_sign_X2 (by decide) (by decide +kernel) rfl rfl dX2_sign_64 ?_
        refine q_iload_n C dX2_sign_67 rfl 0 rfl ?_
        refine q_aaldS C (by omega) dX2_sign_68 ?_
        refine q_stk (st' := [.ref (σ.2.1 (27 + (13 + ns)))]) (by rw [show 27 + (13 + ns) = 40 + ns by omega]) ?_
        refine q_aload_n C dX2_sign_69 rfl 1 rfl ?_
        refine q_get C (k := 0) (fi := 3) (.ref (σ.2.1 (27 + 0))) (by omega) q_enBP rfl iX2_sign_X2 (by decide) (by decide +kernel) rfl rfl dX2_sign_70 ?_
        refine q_callNv C (As := [.ref (σ.2.1 (27 + 0))]) (rest := []) (k := 27 + (13 + ns)) (q_isG (by omega)).1 (q_enG (by omega)) rfl rfl (kX1_copyFrom l σ V G (i := 13 + ns) (j := 0) (by omega) (by decide) (by omega)) 1 (host := RX2) gX2_sign_X1_copyFrom_n126 rfl rfl rfl (by decide +kernel) (by decide +kernel) (by decide +kernel) (by decide +kernel) (by decide +kernel) ⟨Nat.le_of_ble_eq_true rfl, Nat.le_of_ble_eq_true rfl⟩ dX2_sign_73 rfl (Nat.le_of_ble_eq_true rfl) ⟨Nat.le_of_ble_eq_true rfl, Nat.le_of_ble_eq_true rfl⟩ (fun V_3 G_4 hq_73 => ?_)
        obtain ⟨rfl, rfl⟩ := hq_73
        refine q_aload_n C dX2_sign_76 rfl 1 rfl ?_
        refine q_get C (k := 0) (fi := 12) (.ref (σ.2.1 11)) (by omega) q_enBP rfl iX2_sign_X2 (by decide) (by decide +kernel) rfl rfl dX2_sign_77 ?_
        refine q_iload_n C dX2_sign_80 rfl 0 rfl ?_
        refine q_iload_n C dX2_sign_81 rfl 2 rfl ?_
        refine q_iastN C (k := 11) (n := 8) ⟨by decide, by decide, by decide⟩ (by omega) (by decide) dX2_sign_82 ?_
        refine q_aload_n C dX2_sign_83 rfl 1 rfl ?_
        refine q_dup C dX2_sign_84 rfl ?_
        refine q_get C (k := 0) (fi := 13) (.int (nI ns)) (by omega) q_enBP rfl iX2_sign_X2 (by decide) (by decide +kernel) rfl (by simp [q_up, q_cpy, hs]; intro z; omega) dX2_sign_85 ?_
        refine q_iconst C (nI 1) dX2_sign_88 (by decide) ?_
        refine q_iaddN C dX2_sign_89  ?_
        refine q_put C (k := 0) (fi := 13) tyX2 tyX2_ok nmX2 (by omega) q_enBP rfl iX2_sign_X2 (by decide) (by decide +kernel) rfl rfl (by decide +kernel) (Nat.le_of_ble_eq_true rfl) (q_enBP |>.trans (by simp [q_up])) dX2_sign_90 ?_
        refine q_iload_n C dX2_sign_93 rfl 0 rfl ?_
        refine hR _ _ _ _ _ _ _ ?_ rfl (Nat.le_of_ble_eq_true rfl) (Nat.le_of_ble_eq_true rfl) dX2_sign_94
        exact ⟨q_c2_0 p_4 ⟨by omega, by omega, by omega⟩, rfl, rfl, rfl⟩
      · skip
        refine q_throw C "java/lang/IllegalStateException" "no room for a sign" T hlf rfl (by decide +kernel) (by decide +kernel) (by decide +kernel) (by decide +kernel) (by decide +kernel) (by decide +kernel) dX2_sign_48 dX2_sign_51 dX2_sign_52 dX2_sign_54 dX2_sign_57 (Nat.le_of_ble_eq_true rfl) (Nat.le_of_ble_eq_true rfl) (Nat.le_of_ble_eq_true rfl) (Nat.le_of_ble_eq_true rfl) (Nat.le_of_ble_eq_true rfl) (Nat.le_of_ble_eq_true rfl) ?_
        first | exact ⟨q_xc_i (q_c2_2 p_4 (fun q => by omega)) rfl, rfl, rfl⟩
    · skip
      refine q_throw C "java/lang/IllegalStateException" "the draft is too large for a sign" T hlf rfl (by decide +kernel) (by decide +kernel) (by decide +kernel) (by decide +kernel) (by decide +kernel) (by decide +kernel) dX2_sign_29 dX2_sign_32 dX2_sign_33 dX2_sign_35 dX2_sign_38 (Nat.le_of_ble_eq_true rfl) (Nat.le_of_ble_eq_true rfl) (Nat.le_of_ble_eq_true rfl) (Nat.le_of_ble_eq_true rfl) (Nat.le_of_ble_eq_true rfl) (Nat.le_of_ble_eq_true rfl) ?_
      first | exact ⟨q_xc_i (q_c2_2 p_4 (fun q => by omega)) rfl, rfl, rfl⟩
abbrev rX2_stands : Room := { frames := 7, cells := 6, slots := 36, locals := 111 }
theorem iX2_stands_X2 : ∀ w ∈ u_ws RX2 TX2 15, w ∈ wsX2_stands := by decide +kernel
set_option maxHeartbeats 4000000 in
set_option maxRecDepth 100000 in
/-- stands -/
theorem kX2_stands (l : Launch) (σ : q_E) (V : q_V) (G : q_G) (hlf : l.stackTraces = false) {n : Nat} (hn : V 0 6 = nI n) (hn2 : n ≤ 12) (hp : q_cpats V n) {ns : Nat} (hs : V 0 13 = nI ns) (hs2 : ns ≤ 8) (hsg : q_csgs V ns) (x y : Int32) : q_Xi l yX2_stands wsX2_stands rX2_stands σ [.ref (σ.2.1 0), .int x, .int y] V G (fun r V' G' => (q_c1 (q_ok ns x ∧ q_ok n y)) = 0 ∧ (nI (q_places V (1 + q_n y) (q_gw V (1 + q_n y)) (q_gh V (1 + q_n y)) (13 + q_n x) (q_gw V (13 + q_n x)) (q_gh V (13 + q_n x)))) = r ∧ V = V' ∧ G = G') ((fun E V' G' => q_xc [xI] (q_c1 (q_ok ns x ∧ q_ok n y)) E ∧ V = V' ∧ G = G')) 6 36 := by
  refine q_Xi_of (cc := cX2_stands) (maxL := 3) (lv := [(0, .ref (σ.2.1 0)), (1, .int x), (2, .int y)]) (by decide +kernel) rfl (Nat.le_of_ble_eq_true rfl) rfl ?_
  intro p e s m args below meth c Q C hR hO T
  refine q_iload_n C dX2_stands_0 rfl 1 rfl ?_
  refine q_if_lt C 12 dX2_stands_1 (by decide) (fun c_1 => ?_) (fun c_1 => ?_)
  · skip
    refine q_throw C "java/lang/IndexOutOfBoundsException" "no such sign" T hlf rfl (by decide +kernel) (by decide +kernel) (by decide +kernel) (by decide +kernel) (by decide +kernel) (by decide +kernel) dX2_stands_12 dX2_stands_15 dX2_stands_16 dX2_stands_18 dX2_stands_21 (Nat.le_of_ble_eq_true rfl) (Nat.le_of_ble_eq_true rfl) (Nat.le_of_ble_eq_true rfl) (Nat.le_of_ble_eq_true rfl) (Nat.le_of_ble_eq_true rfl) (Nat.le_of_ble_eq_true rfl) ?_
    first | exact ⟨q_xc_i (q_c1_1 (fun q => q_ok_neg c_1 (by omega) q.1)) rfl, rfl, rfl⟩ | exact ⟨q_xc_i (q_c1_1 (fun q => q_ok_ge c_9 (by omega) q.1)) rfl, rfl, rfl⟩
  · skip
    refine q_iload_n C dX2_stands_4 rfl 1 rfl ?_
    refine q_aload_n C dX2_stands_5 rfl 0 rfl ?_
    refine q_get C (k := 0) (fi := 13) (.int (nI ns)) (by omega) q_enBP rfl iX2_stands_X2 (by decide) (by decide +kernel) rfl (congrArg (fun z => some (Value.int z)) (hs)) dX2_stands_6 ?_
    refine q_icmp_lt C 22 dX2_stands_9 (by decide) (fun c_9 => ?_) (fun c_9 => ?_)
    · skip
      obtain ⟨a, ha, rfl⟩ := q_ok_of c_1 c_9 (by omega)
      refine q_aload_n C dX2_stands_22 rfl 0 rfl ?_
      refine q_iload_n C dX2_stands_23 rfl 2 rfl ?_
      refine q_xcallVv C (As := [.int y]) (rest := []) (k := 0) (by omega) q_enBP rfl rfl (kX2_checkPattern l σ V G hlf hn hn2 y) 1 gX2_stands_X2_checkPattern rfl rfl rfl (by decide +kernel) ⟨Nat.le_of_ble_eq_true rfl, Nat.le_of_ble_eq_true rfl⟩ dX2_stands_24 rfl (Nat.le_of_ble_eq_true rfl) ⟨Nat.le_of_ble_eq_true rfl, Nat.le_of_ble_eq_true rfl⟩ (fun E_24 V_1 G_2 hx_24 => ?_) (fun V_1 G_2 hq_24 => ?_)
      · skip
        obtain ⟨rfl, n_24, rfl, rfl⟩ := hx_24
        refine hO _ _ _ _ _ _ _ _ ?_ (Nat.le_of_ble_eq_true rfl) (Nat.le_of_ble_eq_true rfl)
        first | exact ⟨q_xc_i (q_c1_1 (fun q => n_24 q.2)) rfl, rfl, rfl⟩
      obtain ⟨p_24, rfl, rfl⟩ := hq_24
      obtain ⟨cc, hcc, rfl⟩ := p_24
      refine q_aload_n C dX2_stands_27 rfl 0 rfl ?_
      refine q_get C (k := 0) (fi := 4) (.ref (σ.2.1 4)) (by omega) q_enBP rfl iX2_stands_X2 (by decide) (by decide +kernel) rfl rfl dX2_stands_28 ?_
      refine q_iload_n C dX2_stands_31 rfl 2 rfl ?_
      refine q_aaldP C (by omega) dX2_stands_32 ?_
      refine q_stk (st' := [.ref (σ.2.1 (27 + (1 + cc)))]) (by rw [show 27 + (1 + cc) = 28 + cc by omega]) ?_
      refine q_aload_n C dX2_stands_33 rfl 0 rfl ?_
      refine q_get C (k := 0) (fi := 11) (.ref (σ.2.1 10)) (by omega) q_enBP rfl iX2_stands_X2 (by decide) (by decide +kernel) rfl rfl dX2_stands_34 ?_
      refine q_iload_n C dX2_stands_37 rfl 1 rfl ?_
      refine q_aaldS C (by omega) dX2_stands_38 ?_
      refine q_stk (st' := [.ref (σ.2.1 (27 + (13 + a))), .ref (σ.2.1 (27 + (1 + cc)))]) (by rw [show 27 + (13 + a) = 40 + a by omega]) ?_
      refine q_callNi C (As := [.ref (σ.2.1 (27 + (13 + a)))]) (rest := []) (k := 27 + (1 + cc)) (q_isG (by omega)).1 (q_enG (by omega)) rfl rfl (kX1_placesOf l σ V G (i := 1 + cc) (by omega) (hp cc hcc) (j := 13 + a) (by omega) (hsg a ha)) 1 (host := RX2) gX2_stands_X1_placesOf_n195 rfl rfl rfl (by decide +kernel) (by decide +kernel) (by decide +kernel) (by decide +kernel) (by decide +kernel) ⟨Nat.le_of_ble_eq_true rfl, Nat.le_of_ble_eq_true rfl⟩ dX2_stands_39 rfl (Nat.le_of_ble_eq_true rfl) ⟨Nat.le_of_ble_eq_true rfl, Nat.le_of_ble_eq_true rfl⟩ (fun r_39 V_3 G_4 hq_39 => ?_)
      obtain ⟨rfl, rfl, rfl⟩ := hq_39
      refine hR _ _ _ _ _ _ _ ?_ rfl (Nat.le_of_ble_eq_true rfl) (Nat.le_of_ble_eq_true rfl) dX2_stands_42
      rw [q_n_nI (n := a) (by omega), q_n_nI (n := cc) (by omega)]
      exact ⟨q_c1_0 ⟨q_ok_nI ha, q_ok_nI hcc⟩, rfl, rfl, rfl⟩
    · skip
      refine q_throw C "java/lang/IndexOutOfBoundsException" "no such sign" T hlf rfl (by decide +kernel) (by decide +kernel) (by decide +kernel) (by decide +kernel) (by decide +kernel) (by decide +kernel) dX2_stands_12 dX2_stands_15 dX2_stands_16 dX2_stands_18 dX2_stands_21 (Nat.le_of_ble_eq_true rfl) (Nat.le_of_ble_eq_true rfl) (Nat.le_of_ble_eq_true rfl) (Nat.le_of_ble_eq_true rfl) (Nat.le_of_ble_eq_true rfl) (Nat.le_of_ble_eq_true rfl) ?_
      first | exact ⟨q_xc_i (q_c1_1 (fun q => q_ok_neg c_1 (by omega) q.1)) rfl, rfl, rfl⟩ | exact ⟨q_xc_i (q_c1_1 (fun q => q_ok_ge c_9 (by omega) q.1)) rfl, rfl, rfl⟩
abbrev rX2_story : Room := { frames := 7, cells := 6, slots := 36, locals := 111 }
set_option maxHeartbeats 4000000 in
set_option maxRecDepth 100000 in
/-- story -/
theorem kX2_story (l : Launch) (σ : q_E) (V : q_V) (G : q_G) (hlf : l.stackTraces = false) {n : Nat} (hn : V 0 6 = nI n) (hn2 : n ≤ 12) (hp : q_cpats V n) {ns : Nat} (hs : V 0 13 = nI ns) (hs2 : ns ≤ 8) (hsg : q_csgs V ns) (x : Int32) : q_Xi l yX2_story wsX2_story rX2_story σ [.ref (σ.2.1 0), .int x] V G (fun r V' G' => (q_c1 (q_ok n x)) = 0 ∧ (q_cstory V (q_n x) ns) = r ∧ V = V' ∧ G = G') ((fun E V' G' => q_xc [xI] (q_c1 (q_ok n x)) E ∧ V = V' ∧ G = G')) 6 36 := by
  refine q_Xi_of (cc := cX2_story) (maxL := 2) (lv := [(0, .ref (σ.2.1 0)), (1, .int x)]) (by decide +kernel) rfl (Nat.le_of_ble_eq_true rfl) rfl ?_
  intro p e s m args below meth c Q C hR hO T
  refine q_aload_n C dX2_story_0 rfl 0 rfl ?_
  refine q_iload_n C dX2_story_1 rfl 1 rfl ?_
  refine q_xcallVv C (As := [.int x]) (rest := []) (k := 0) (by omega) q_enBP rfl rfl (kX2_checkPattern l σ V G hlf hn hn2 x) 1 gX2_story_X2_checkPattern rfl rfl rfl (by decide +kernel) ⟨Nat.le_of_ble_eq_true rfl, Nat.le_of_ble_eq_true rfl⟩ dX2_story_2 rfl (Nat.le_of_ble_eq_true rfl) ⟨Nat.le_of_ble_eq_true rfl, Nat.le_of_ble_eq_true rfl⟩ (fun E_2 V_1 G_2 hx_2 => ?_) (fun V_1 G_2 hq_2 => ?_)
  · skip
    obtain ⟨rfl, n_2, rfl, rfl⟩ := hx_2
    refine hO _ _ _ _ _ _ _ _ ?_ (Nat.le_of_ble_eq_true rfl) (Nat.le_of_ble_eq_true rfl)
    first | exact ⟨q_xc_i (q_c1_1 n_2) rfl, rfl, rfl⟩
  obtain ⟨p_2, rfl, rfl⟩ := hq_2
  obtain ⟨a, ha, rfl⟩ := p_2
  refine q_aload_n C dX2_story_5 rfl 0 rfl ?_
  refine q_iload_n C dX2_story_6 rfl 1 rfl ?_
  refine q_callVi C (As := [.int (nI a)]) (rest := []) (k := 0) (by omega) q_enBP rfl rfl (kX2_storyOf l σ V G hn2 hp hs hs2 hsg (pa := a) ha) 1 gX2_story_X2_storyOf rfl rfl rfl (by decide +kernel) ⟨Nat.le_of_ble_eq_true rfl, Nat.le_of_ble_eq_true rfl⟩ dX2_story_7 rfl (Nat.le_of_ble_eq_true rfl) ⟨Nat.le_of_ble_eq_true rfl, Nat.le_of_ble_eq_true rfl⟩ (fun r_7 V_3 G_4 hq_7 => ?_)
  obtain ⟨rfl, rfl, rfl⟩ := hq_7
  refine hR _ _ _ _ _ _ _ ?_ rfl (Nat.le_of_ble_eq_true rfl) (Nat.le_of_ble_eq_true rfl) dX2_story_10
  rw [q_n_nI (n := a) (by omega)]
  exact ⟨q_c1_0 (q_ok_nI ha), rfl, rfl, rfl⟩
abbrev rX2_hear : Room := { frames := 7, cells := 6, slots := 36, locals := 111 }
theorem iX2_hear_X2 : ∀ w ∈ u_ws RX2 TX2 15, w ∈ wsX2_hear := by decide +kernel
set_option maxHeartbeats 4000000 in
set_option maxRecDepth 100000 in
/-- hear -/
theorem kX2_hear (l : Launch) (σ : q_E) (V : q_V) (G : q_G) (hlf : l.stackTraces = false) {n : Nat} (hn2 : n ≤ 12) (hp : q_cpats V n) (hbl : q_cbelts V n) {ns : Nat} (hs : V 0 13 = nI ns) (hs2 : ns ≤ 8) (hsg : q_csgs V ns) (x y : Int32) : q_Xl l yX2_hear wsX2_hear rX2_hear σ [.ref (σ.2.1 0), .int x, .int y] V G (fun r V' G' => (q_c1 ((q_cisb V x) ∧ q_ok 7 y)) = 0 ∧ (G 12 (q_n y) + (q_cstory V (q_n (V 6 (q_n x))) ns).toInt64) = r ∧ V = V' ∧ q_upL G 12 (q_n y) (G 12 (q_n y) + (q_cstory V (q_n (V 6 (q_n x))) ns).toInt64) = G') ((fun E V' G' => q_xc [xI] (q_c1 ((q_cisb V x) ∧ q_ok 7 y)) E ∧ V = V' ∧ G = G')) 6 36 := by
  refine q_Xl_of (cc := cX2_hear) (maxL := 3) (lv := [(0, .ref (σ.2.1 0)), (1, .int x), (2, .int y)]) (by decide +kernel) rfl (Nat.le_of_ble_eq_true rfl) rfl ?_
  intro p e s m args below meth c Q C hR hO T
  refine q_aload_n C dX2_hear_0 rfl 0 rfl ?_
  refine q_iload_n C dX2_hear_1 rfl 1 rfl ?_
  refine q_xcallVv C (As := [.int x]) (rest := []) (k := 0) (by omega) q_enBP rfl rfl (kX2_checkBelt l σ V G hlf x) 1 gX2_hear_X2_checkBelt rfl rfl rfl (by decide +kernel) ⟨Nat.le_of_ble_eq_true rfl, Nat.le_of_ble_eq_true rfl⟩ dX2_hear_2 rfl (Nat.le_of_ble_eq_true rfl) ⟨Nat.le_of_ble_eq_true rfl, Nat.le_of_ble_eq_true rfl⟩ (fun E_2 V_1 G_2 hx_2 => ?_) (fun V_1 G_2 hq_2 => ?_)
  · skip
    obtain ⟨rfl, n_2, rfl, rfl⟩ := hx_2
    refine hO _ _ _ _ _ _ _ _ ?_ (Nat.le_of_ble_eq_true rfl) (Nat.le_of_ble_eq_true rfl)
    first | exact ⟨q_xc_i (q_c1_1 (fun q => n_2 q.1)) rfl, rfl, rfl⟩
  obtain ⟨p_2, rfl, rfl⟩ := hq_2
  obtain ⟨b, hb, rfl, hb9⟩ := p_2
  obtain ⟨pa, hpa, hpe⟩ := (hbl b hb).resolve_left hb9
  refine q_iload_n C dX2_hear_5 rfl 2 rfl ?_
  refine q_xcallSv C (As := [.int y]) (rest := []) (kX2_checkPerson l σ V G hlf y) 1 gX2_hear_X2_checkPerson rfl rfl rfl (by decide +kernel) ⟨Nat.le_of_ble_eq_true rfl, Nat.le_of_ble_eq_true rfl⟩ dX2_hear_6 rfl (Nat.le_of_ble_eq_true rfl) ⟨Nat.le_of_ble_eq_true rfl, Nat.le_of_ble_eq_true rfl⟩ (fun E_6 V_3 G_4 hx_6 => ?_) (fun V_3 G_4 hq_6 => ?_)
  · skip
    obtain ⟨rfl, n_6, rfl, rfl⟩ := hx_6
    refine hO _ _ _ _ _ _ _ _ ?_ (Nat.le_of_ble_eq_true rfl) (Nat.le_of_ble_eq_true rfl)
    first | exact ⟨q_xc_i (q_c1_1 (fun q => n_6 q.2)) rfl, rfl, rfl⟩
  obtain ⟨p_6, rfl, rfl⟩ := hq_6
  obtain ⟨a, ha, rfl⟩ := p_6
  refine q_aload_n C dX2_hear_9 rfl 0 rfl ?_
  refine q_get C (k := 0) (fi := 14) (.ref (σ.2.1 12)) (by omega) q_enBP rfl iX2_hear_X2 (by decide) (by decide +kernel) rfl rfl dX2_hear_10 ?_
  refine q_iload_n C dX2_hear_13 rfl 2 rfl ?_
  refine q_dup2 C dX2_hear_14 rfl rfl ?_
  refine q_laldN C (k := 12) (n := 7) ⟨by decide, by decide, by decide⟩ (by omega) (by decide) dX2_hear_15 ?_
  refine q_aload_n C dX2_hear_16 rfl 0 rfl ?_
  refine q_aload_n C dX2_hear_17 rfl 0 rfl ?_
  refine q_get C (k := 0) (fi := 7) (.ref (σ.2.1 6)) (by omega) q_enBP rfl iX2_hear_X2 (by decide) (by decide +kernel) rfl rfl dX2_hear_18 ?_
  refine q_iload_n C dX2_hear_21 rfl 1 rfl ?_
  refine q_ialdN C (k := 6) (n := 20) ⟨by decide, by decide, by decide⟩ (by omega) (by decide) dX2_hear_22 ?_
  refine q_stk (st' := [.int (nI pa), .ref (σ.2.1 0), .long (G 12 a), .int (nI a), .ref (σ.2.1 12)]) (congrArg (fun z => Value.int z :: [.ref (σ.2.1 0), .long (G 12 a), .int (nI a), .ref (σ.2.1 12)]) (hpe)) ?_
  refine q_callVi C (As := [.int (nI pa)]) (rest := [.long (G 12 a), .int (nI a), .ref (σ.2.1 12)]) (k := 0) (by omega) q_enBP rfl rfl (kX2_storyOf l σ V G hn2 hp hs hs2 hsg (pa := pa) hpa) 1 gX2_hear_X2_storyOf rfl rfl rfl (by decide +kernel) ⟨Nat.le_of_ble_eq_true rfl, Nat.le_of_ble_eq_true rfl⟩ dX2_hear_23 rfl (Nat.le_of_ble_eq_true rfl) ⟨Nat.le_of_ble_eq_true rfl, Nat.le_of_ble_eq_true rfl⟩ (fun r_23 V_5 G_6 hq_23 => ?_)
  obtain ⟨rfl, rfl, rfl⟩ := hq_23
  refine q_i2l C dX2_hear_26 ?_
  refine q_ladd C dX2_hear_27 ?_
  refine q_lastN C (k := 12) (n := 7) ⟨by decide, by decide, by decide⟩ (by omega) (by decide) dX2_hear_28 ?_
  refine q_aload_n C dX2_hear_29 rfl 0 rfl ?_
  refine q_get C (k := 0) (fi := 14) (.ref (σ.2.1 12)) (by omega) q_enBP rfl iX2_hear_X2 (by decide) (by decide +kernel) rfl rfl dX2_hear_30 ?_
  refine q_iload_n C dX2_hear_33 rfl 2 rfl ?_
  refine q_laldN C (k := 12) (n := 7) ⟨by decide, by decide, by decide⟩ (by omega) (by decide) dX2_hear_34 ?_
  refine hR _ _ _ _ _ _ _ ?_ (Nat.le_of_ble_eq_true rfl) (Nat.le_of_ble_eq_true rfl) dX2_hear_35
  rw [q_n_nI (n := a) (by omega), q_n_nI (n := b) (by omega), hpe, q_n_nI (n := pa) (by omega)]
  exact ⟨q_c1_0 ⟨⟨b, hb, rfl, hb9⟩, q_ok_nI ha⟩, (q_upL_self _ _ _ _).symm, rfl, rfl⟩
abbrev rX2_ranked : Room := { frames := 6, cells := 6, slots := 36, locals := 90 }
set_option maxHeartbeats 4000000 in
set_option maxRecDepth 100000 in
/-- ranked -/
theorem kX2_ranked (l : Launch) (σ : q_E) (V : q_V) (G : q_G) (hlf : l.stackTraces = false)  (x : Int32) : q_Xi l yX2_ranked wsX2_ranked rX2_ranked σ [.ref (σ.2.1 0), .int x] V G (fun r V' G' => (q_c1 (q_ok 7 x)) = 0 ∧ (∃ k, k ≤ 6 ∧ (∀ p, p < k → ¬ nI (q_rk (G 12) p) = x) ∧ (k < 6 → nI (q_rk (G 12) k) = x) ∧ nI k = r) ∧ V = V' ∧ G = G') ((fun E V' G' => q_xc [xI] (q_c1 (q_ok 7 x)) E ∧ V = V' ∧ G = G')) 6 36 := by
  refine q_Xi_of (cc := cX2_ranked) (maxL := 3) (lv := [(0, .ref (σ.2.1 0)), (1, .int x)]) (by decide +kernel) rfl (Nat.le_of_ble_eq_true rfl) rfl ?_
  intro p e s m args below meth c Q C hR hO T
  refine q_iload_n C dX2_ranked_0 rfl 1 rfl ?_
  refine q_if_lt C 10 dX2_ranked_1 (by decide) (fun c_1 => ?_) (fun c_1 => ?_)
  · skip
    refine q_throw C "java/lang/IndexOutOfBoundsException" "no such rank" T hlf rfl (by decide +kernel) (by decide +kernel) (by decide +kernel) (by decide +kernel) (by decide +kernel) (by decide +kernel) dX2_ranked_10 dX2_ranked_13 dX2_ranked_14 dX2_ranked_16 dX2_ranked_19 (Nat.le_of_ble_eq_true rfl) (Nat.le_of_ble_eq_true rfl) (Nat.le_of_ble_eq_true rfl) (Nat.le_of_ble_eq_true rfl) (Nat.le_of_ble_eq_true rfl) (Nat.le_of_ble_eq_true rfl) ?_
    first | exact ⟨q_xc_i (q_c1_1 (q_ok_neg c_1 (by omega))) rfl, rfl, rfl⟩ | exact ⟨q_xc_i (q_c1_1 (q_ok_ge c_7 (by omega))) rfl, rfl, rfl⟩
  · skip
    refine q_iload_n C dX2_ranked_4 rfl 1 rfl ?_
    refine q_bipush C (nI 7) dX2_ranked_5 (by decide) ?_
    refine q_icmp_lt C 20 dX2_ranked_7 (by decide) (fun c_7 => ?_) (fun c_7 => ?_)
    · skip
      have hx7 : q_ok 7 x := q_ok_of c_1 c_7 (by decide)
      refine q_iconst C (nI 0) dX2_ranked_20 (by decide) ?_
      refine q_istore_n C [(2, .int (nI 0)), (0, .ref (σ.2.1 0)), (1, .int x)] dX2_ranked_21 rfl (by decide) rfl ?_
      have L_1 : ∀ (nL_1 : Nat) (j : Nat) (hj : j ≤ 6) (hno : ∀ p, p < j → ¬ nI (q_rk (G 12) p) = x), 6 - j < nL_1 → q_W σ p l e rX2_ranked s m args below meth c Q 3 0 0 V G [(2, .int (nI j)), (0, .ref (σ.2.1 0)), (1, .int x)] 22 [] := by
        intro nL_1
        induction nL_1 with
        | zero => intro j hj hno h; exact absurd h (Nat.not_lt_zero _)
        | succ nL_1 ihL_1 =>
          intro j hj hno hmL_1
          refine q_iload_n C dX2_ranked_22 rfl 0 rfl ?_
          refine q_bipush C (nI 6) dX2_ranked_23 (by decide) ?_
          refine q_icmp_geN C 43 dX2_ranked_25 (by decide) (by omega) (by omega) (fun c_25 => ?_) (fun c_25 => ?_)
          · skip
            refine q_iload_n C dX2_ranked_43 rfl 0 rfl ?_
            refine hR _ _ _ _ _ _ _ ?_ rfl (Nat.le_of_ble_eq_true rfl) (Nat.le_of_ble_eq_true rfl) dX2_ranked_44
            first | exact ⟨q_c1_0 hx7, ⟨j, hj, hno, fun _ => c_34, rfl⟩, rfl, rfl⟩ | exact ⟨q_c1_0 hx7, ⟨j, hj, hno, fun z => by omega, rfl⟩, rfl, rfl⟩
          · skip
            refine q_aload_n C dX2_ranked_28 rfl 1 rfl ?_
            refine q_iload_n C dX2_ranked_29 rfl 0 rfl ?_
            refine q_callVi C (As := [.int (nI j)]) (rest := []) (k := 0) (by omega) q_enBP rfl rfl (kX2_rankOf l σ V G (a := j) (by omega)) 1 gX2_ranked_X2_rankOf rfl rfl rfl (by decide +kernel) ⟨Nat.le_of_ble_eq_true rfl, Nat.le_of_ble_eq_true rfl⟩ dX2_ranked_30 rfl (Nat.le_of_ble_eq_true rfl) ⟨Nat.le_of_ble_eq_true rfl, Nat.le_of_ble_eq_true rfl⟩ (fun r_30 V_2 G_3 hq_30 => ?_)
            obtain ⟨rfl, rfl, rfl⟩ := hq_30
            refine q_iload_n C dX2_ranked_33 rfl 2 rfl ?_
            refine q_icmp_eq C 43 dX2_ranked_34 (by decide) (fun c_34 => ?_) (fun c_34 => ?_)
            · skip
              refine q_iload_n C dX2_ranked_43 rfl 0 rfl ?_
              refine hR _ _ _ _ _ _ _ ?_ rfl (Nat.le_of_ble_eq_true rfl) (Nat.le_of_ble_eq_true rfl) dX2_ranked_44
              first | exact ⟨q_c1_0 hx7, ⟨j, hj, hno, fun _ => c_34, rfl⟩, rfl, rfl⟩ | exact ⟨q_c1_0 hx7, ⟨j, hj, hno, fun z => by omega, rfl⟩, rfl, rfl⟩
            · skip
              refine q_iincN C [(2, .int (nI (j + 1))), (0, .ref (σ.2.1 0)), (1, .int x)] dX2_ranked_37 0 rfl (by decide) rfl ?_
              refine q_goto C 22 dX2_ranked_40 (by decide) ?_
              refine q_sub (lv' := [(2, .int (nI (j + 1))), (0, .ref (σ.2.1 0)), (1, .int x)]) [0, 1, 2] rfl ?_
              exact ihL_1 (j + 1) (by omega) (lt_s hno c_34) (by omega)
      refine q_sub (lv' := [(2, .int (nI 0)), (0, .ref (σ.2.1 0)), (1, .int x)]) [0, 1, 2] rfl ?_
      exact L_1 _ 0 (Nat.zero_le _) lt_0 (Nat.lt_succ_self _)
    · skip
      refine q_throw C "java/lang/IndexOutOfBoundsException" "no such rank" T hlf rfl (by decide +kernel) (by decide +kernel) (by decide +kernel) (by decide +kernel) (by decide +kernel) (by decide +kernel) dX2_ranked_10 dX2_ranked_13 dX2_ranked_14 dX2_ranked_16 dX2_ranked_19 (Nat.le_of_ble_eq_true rfl) (Nat.le_of_ble_eq_true rfl) (Nat.le_of_ble_eq_true rfl) (Nat.le_of_ble_eq_true rfl) (Nat.le_of_ble_eq_true rfl) (Nat.le_of_ble_eq_true rfl) ?_
      first | exact ⟨q_xc_i (q_c1_1 (q_ok_neg c_1 (by omega))) rfl, rfl, rfl⟩ | exact ⟨q_xc_i (q_c1_1 (q_ok_ge c_7 (by omega))) rfl, rfl, rfl⟩
