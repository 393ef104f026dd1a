theorem kX1_cellsA (l : Launch) (σ : q_E) {V : q_V} (U : q_V) (G : q_G) (hag : q_ag V U) {pa n : Nat} (hn2 : n ≤ 12) (hp : q_cpats V n) (hpa : pa < n) (y : Int32) : q_Mi l yX1_cellsOf wsX1_cellsOf rX1_cellsOf σ [.ref (σ.2.1 (27 + (1 + pa))), .int y] U G (fun r V' G' => nI (q_cneeds V pa y) = r ∧ U = V' ∧ G = G') 0 0 := by
  have h := kX1_cellsOf l σ U G (i := 1 + pa) (by omega) (q_gok_ag hag (hp pa hpa)) y
  rw [q_cneeds_ag hag] at h
  exact h
abbrev rX2_apart : Room := { frames := 7, cells := 6, slots := 36, locals := 111 }
theorem iX2_apart_X2 : ∀ w ∈ u_ws RX2 TX2 15, w ∈ wsX2_apart := by decide +kernel
set_option maxHeartbeats 4000000 in
set_option maxRecDepth 100000 in
/-- apart -/
theorem kX2_apart (l : Launch) (σ : q_E) (V : q_V) (G : q_G) (hlf : l.stackTraces = false) {n : Nat} (hn2 : n ≤ 12) (hp : q_cpats V n) (hbl : q_cbelts V n) (how : ∀ b, b < 20 → ∃ a, a < 7 ∧ V 7 b = nI a) (x : Int32) : q_Xi l yX2_apart wsX2_apart rX2_apart σ [.ref (σ.2.1 0), .int x] V G (fun r V' G' => (q_c2 (q_cisb V x) (∀ k, k < 8 → V (20 + q_n (V 7 (q_n x))) k + nI (q_cneeds V (q_n (V 6 (q_n x))) (nI k)) ≤ nI 100000)) = 0 ∧ (nI (q_gw V (1 + q_n (V 6 (q_n x))) * q_gh V (1 + q_n (V 6 (q_n x))))) = r ∧ (q_up (q_addr V (q_n (V 7 (q_n x))) (fun k => nI (q_cneeds V (q_n (V 6 (q_n x))) (nI k))) 8) 6 (q_n x) (-1)) = V' ∧ G = G') ((fun E V' G' => q_xc [xI, xS] (q_c2 (q_cisb V x) (∀ k, k < 8 → V (20 + q_n (V 7 (q_n x))) k + nI (q_cneeds V (q_n (V 6 (q_n x))) (nI k)) ≤ nI 100000)) E ∧ V = V' ∧ G = G')) 6 36 := by
  refine q_Xi_of (cc := cX2_apart) (maxL := 5) (lv := [(0, .ref (σ.2.1 0)), (1, .int x)]) (by decide +kernel) rfl (Nat.le_of_ble_eq_true rfl) rfl ?_
  intro p e s m args below meth c Q C hR hO T
  refine q_aload_n C dX2_apart_0 rfl 0 rfl ?_
  refine q_iload_n C dX2_apart_1 rfl 1 rfl ?_
  refine q_xcallVv C (As := [.int x]) (rest := []) (k := 0) (by omega) q_enBP rfl rfl (kX2_checkBelt l σ V G hlf x) 1 gX2_apart_X2_checkBelt rfl rfl rfl (by decide +kernel) ⟨Nat.le_of_ble_eq_true rfl, Nat.le_of_ble_eq_true rfl⟩ dX2_apart_2 rfl (Nat.le_of_ble_eq_true rfl) ⟨Nat.le_of_ble_eq_true rfl, Nat.le_of_ble_eq_true rfl⟩ (fun E_2 V_1 G_2 hx_2 => ?_) (fun V_1 G_2 hq_2 => ?_)
  · skip
    obtain ⟨rfl, n_2, rfl, rfl⟩ := hx_2
    refine hO _ _ _ _ _ _ _ _ ?_ (Nat.le_of_ble_eq_true rfl) (Nat.le_of_ble_eq_true rfl)
    first | exact ⟨q_xc_i (q_c2_1 n_2) rfl, rfl, rfl⟩
  obtain ⟨p_2, rfl, rfl⟩ := hq_2
  obtain ⟨b, hb, rfl, hb9⟩ := p_2
  obtain ⟨pa, hpa, hpe⟩ := (hbl b hb).resolve_left hb9
  obtain ⟨ow, how7, howe⟩ := how b hb
  refine q_aload_n C dX2_apart_5 rfl 0 rfl ?_
  refine q_get C (k := 0) (fi := 4) (.ref (σ.2.1 4)) (by omega) q_enBP rfl iX2_apart_X2 (by decide) (by decide +kernel) rfl rfl dX2_apart_6 ?_
  refine q_aload_n C dX2_apart_9 rfl 0 rfl ?_
  refine q_get C (k := 0) (fi := 7) (.ref (σ.2.1 6)) (by omega) q_enBP rfl iX2_apart_X2 (by decide) (by decide +kernel) rfl rfl dX2_apart_10 ?_
  refine q_iload_n C dX2_apart_13 rfl 1 rfl ?_
  refine q_ialdN C (k := 6) (n := 20) ⟨by decide, by decide, by decide⟩ (by omega) (by decide) dX2_apart_14 ?_
  refine q_stk (st' := [.int (nI pa), .ref (σ.2.1 4)]) (congrArg (fun z => Value.int z :: [.ref (σ.2.1 4)]) (hpe)) ?_
  refine q_aaldP C (by omega) dX2_apart_15 ?_
  refine q_stk (st' := [.ref (σ.2.1 (27 + (1 + pa)))]) (by rw [show 27 + (1 + pa) = 28 + pa by omega]) ?_
  refine q_astore_n C [(2, .ref (σ.2.1 (27 + (1 + pa)))), (0, .ref (σ.2.1 0)), (1, .int (nI b))] dX2_apart_16 rfl (by decide) rfl ?_
  refine q_aload_n C dX2_apart_17 rfl 1 rfl ?_
  refine q_get C (k := 0) (fi := 0) (.ref (σ.2.1 1)) (by omega) q_enBP rfl iX2_apart_X2 (by decide) (by decide +kernel) rfl rfl dX2_apart_18 ?_
  refine q_aload_n C dX2_apart_21 rfl 1 rfl ?_
  refine q_get C (k := 0) (fi := 8) (.ref (σ.2.1 7)) (by omega) q_enBP rfl iX2_apart_X2 (by decide) (by decide +kernel) rfl rfl dX2_apart_22 ?_
  refine q_iload_n C dX2_apart_25 rfl 2 rfl ?_
  refine q_ialdN C (k := 7) (n := 20) ⟨by decide, by decide, by decide⟩ (by omega) (by decide) dX2_apart_26 ?_
  refine q_stk (st' := [.int (nI ow), .ref (σ.2.1 1)]) (congrArg (fun z => Value.int z :: [.ref (σ.2.1 1)]) (howe)) ?_
  refine q_aaldH C (by omega) dX2_apart_27 ?_
  refine q_astore_n C [(3, .ref (σ.2.1 (20 + ow))), (2, .ref (σ.2.1 (27 + (1 + pa)))), (0, .ref (σ.2.1 0)), (1, .int (nI b))] dX2_apart_28 rfl (by decide) rfl ?_
  refine q_iconst C (nI 0) dX2_apart_29 (by decide) ?_
  refine q_istore C [(4, .int (nI 0)), (3, .ref (σ.2.1 (20 + ow))), (2, .ref (σ.2.1 (27 + (1 + pa)))), (0, .ref (σ.2.1 0)), (1, .int (nI b))] dX2_apart_30 (by decide) rfl ?_
  have L_3 : ∀ (nL_3 : Nat) (j : Nat) (hj : j ≤ 8) (hnd : ∀ k, k < j → V (20 + ow) k + nI (q_cneeds V pa (nI k)) ≤ nI 100000), 8 - j < nL_3 → q_W σ p l e rX2_apart s m args below meth c Q 5 1 6 V G [(4, .int (nI j)), (0, .ref (σ.2.1 0)), (1, .int (nI b)), (2, .ref (σ.2.1 (27 + (1 + pa)))), (3, .ref (σ.2.1 (20 + ow)))] 32 [] := by
    intro nL_3
    induction nL_3 with
    | zero => intro j hj hnd h; exact absurd h (Nat.not_lt_zero _)
    | succ nL_3 ihL_3 =>
      intro j hj hnd hmL_3
      refine q_iload C dX2_apart_32 0 rfl ?_
      refine q_bipush C (nI 8) dX2_apart_34 (by decide) ?_
      refine q_icmp_geN C 71 dX2_apart_36 (by decide) (by omega) (by omega) (fun c_36 => ?_) (fun c_36 => ?_)
      · skip
        have hnd8 : ∀ k, k < 8 → V (20 + ow) k + nI (q_cneeds V pa (nI k)) ≤ nI 100000 := fun k hk => hnd k (by omega)
        refine q_iconst C (nI 0) dX2_apart_71 (by decide) ?_
        refine q_istore C [(4, .int (nI 0)), (0, .ref (σ.2.1 0)), (1, .int (nI b)), (2, .ref (σ.2.1 (27 + (1 + pa)))), (3, .ref (σ.2.1 (20 + ow)))] dX2_apart_72 (by decide) rfl ?_
        have L_4 : ∀ (nL_4 : Nat) (j : Nat) (hj : j ≤ 8), 8 - j < nL_4 → q_W σ p l e rX2_apart s m args below meth c Q 5 1 6 (q_addr V ow (fun k => nI (q_cneeds V pa (nI k))) j) G [(4, .int (nI j)), (0, .ref (σ.2.1 0)), (1, .int (nI b)), (2, .ref (σ.2.1 (27 + (1 + pa)))), (3, .ref (σ.2.1 (20 + ow)))] 74 [] := by
          intro nL_4
          induction nL_4 with
          | zero => intro j hj h; exact absurd h (Nat.not_lt_zero _)
          | succ nL_4 ihL_4 =>
            intro j hj hmL_4
            refine q_iload C dX2_apart_74 0 rfl ?_
            refine q_bipush C (nI 8) dX2_apart_76 (by decide) ?_
            refine q_icmp_geN C 100 dX2_apart_78 (by decide) (by omega) (by omega) (fun c_78 => ?_) (fun c_78 => ?_)
            · skip
              refine q_aload_n C dX2_apart_100 rfl 1 rfl ?_
              refine q_get C (k := 0) (fi := 7) (.ref (σ.2.1 6)) (by omega) q_enBP rfl iX2_apart_X2 (by decide) (by decide +kernel) rfl rfl dX2_apart_101 ?_
              refine q_iload_n C dX2_apart_104 rfl 2 rfl ?_
              refine q_iconst C ((-1)) dX2_apart_105 (by decide) ?_
              refine q_iastN C (k := 6) (n := 20) ⟨by decide, by decide, by decide⟩ (by omega) (by decide) dX2_apart_106 ?_
              refine q_aload_n C dX2_apart_107 rfl 3 rfl ?_
              have hag9 := q_ag_up (k := 6) (j := b) (x := -1) (q_ag_addr V how7 (fun k => nI (q_cneeds V pa (nI k))) j) (by decide)
              refine q_callNi C (As := []) (rest := []) (k := 27 + (1 + pa)) (q_isG (by omega)).1 (q_enG (by omega)) rfl rfl (kX1_size l σ (q_up (q_addr V ow (fun k => nI (q_cneeds V pa (nI k))) j) 6 b (((-1)))) G (i := 1 + pa) (by omega) (q_gok_ag hag9 (hp pa hpa))) 0 (host := RX2) gX2_apart_X1_size_n100 rfl rfl rfl (by decide +kernel) (by decide +kernel) (by decide +kernel) (by decide +kernel) (by decide +kernel) ⟨Nat.le_of_ble_eq_true rfl, Nat.le_of_ble_eq_true rfl⟩ dX2_apart_108 rfl (Nat.le_of_ble_eq_true rfl) ⟨Nat.le_of_ble_eq_true rfl, Nat.le_of_ble_eq_true rfl⟩ (fun r_108 V_5 G_6 hq_108 => ?_)
              obtain ⟨rfl, rfl, rfl⟩ := hq_108
              refine hR _ _ _ _ _ _ _ ?_ rfl (Nat.le_of_ble_eq_true rfl) (Nat.le_of_ble_eq_true rfl) dX2_apart_111
              obtain rfl : j = 8 := by omega
              rw [q_n_nI (n := b) (by omega), hpe, howe, q_n_nI (n := pa) (by omega), q_n_nI (n := ow) (by omega)]
              exact ⟨q_c2_0 ⟨b, hb, rfl, hb9⟩ hnd8, rfl, rfl, rfl⟩
            · skip
              refine q_aload_n C dX2_apart_81 rfl 4 rfl ?_
              refine q_iload C dX2_apart_82 0 rfl ?_
              refine q_dup2 C dX2_apart_84 rfl rfl ?_
              refine q_ialdN C (k := 20 + ow) (q_isI_hand (by omega)) (by omega) (by decide) dX2_apart_85 ?_
              refine q_aload_n C dX2_apart_86 rfl 3 rfl ?_
              refine q_iload C dX2_apart_87 0 rfl ?_
              refine q_callNi C (As := [.int (nI j)]) (rest := [.int ((q_addr V ow (fun k => nI (q_cneeds V pa (nI k))) j) (20 + ow) j), .int (nI j), .ref (σ.2.1 (20 + ow))]) (k := 27 + (1 + pa)) (q_isG (by omega)).1 (q_enG (by omega)) rfl rfl (kX1_cellsA l σ (q_addr V ow (fun k => nI (q_cneeds V pa (nI k))) j) G (q_ag_addr V how7 (fun k => nI (q_cneeds V pa (nI k))) j) hn2 hp hpa (nI j)) 1 (host := RX2) gX2_apart_X1_cellsOf_n92 rfl rfl rfl (by decide +kernel) (by decide +kernel) (by decide +kernel) (by decide +kernel) (by decide +kernel) ⟨Nat.le_of_ble_eq_true rfl, Nat.le_of_ble_eq_true rfl⟩ dX2_apart_89 rfl (Nat.le_of_ble_eq_true rfl) ⟨Nat.le_of_ble_eq_true rfl, Nat.le_of_ble_eq_true rfl⟩ (fun r_89 V_7 G_8 hq_89 => ?_)
              obtain ⟨rfl, rfl, rfl⟩ := hq_89
              refine q_iadd C dX2_apart_92 ?_
              refine q_iastN C (k := 20 + ow) (q_isI_hand (by omega)) (by omega) (by decide) dX2_apart_93 ?_
              refine q_VG (V' := q_addr V ow (fun k => nI (q_cneeds V pa (nI k))) (j + 1)) (G' := G) (by exact q_addr_succ V ow (fun k => nI (q_cneeds V pa (nI k))) j) rfl ?_
              refine q_iincN C [(4, .int (nI (j + 1))), (0, .ref (σ.2.1 0)), (1, .int (nI b)), (2, .ref (σ.2.1 (27 + (1 + pa)))), (3, .ref (σ.2.1 (20 + ow)))] dX2_apart_94 0 rfl (by decide) rfl ?_
              refine q_goto C 74 dX2_apart_97 (by decide) ?_
              refine q_sub (lv' := [(4, .int (nI (j + 1))), (0, .ref (σ.2.1 0)), (1, .int (nI b)), (2, .ref (σ.2.1 (27 + (1 + pa)))), (3, .ref (σ.2.1 (20 + ow)))]) [0, 1, 2, 3, 4] rfl ?_
              exact ihL_4 (j + 1) (by omega) (by omega)
        refine q_sub (lv' := [(4, .int (nI 0)), (0, .ref (σ.2.1 0)), (1, .int (nI b)), (2, .ref (σ.2.1 (27 + (1 + pa)))), (3, .ref (σ.2.1 (20 + ow)))]) [0, 1, 2, 3, 4] rfl ?_
        refine q_VG (V' := q_addr V ow (fun k => nI (q_cneeds V pa (nI k))) 0) (G' := G) ((q_addr_0 _ _ _).symm) rfl ?_
        exact L_4 _ 0 (Nat.zero_le _) (Nat.lt_succ_self _)
      · skip
        refine q_aload_n C dX2_apart_39 rfl 4 rfl ?_
        refine q_iload C dX2_apart_40 0 rfl ?_
        refine q_ialdN C (k := 20 + ow) (q_isI_hand (by omega)) (by omega) (by decide) dX2_apart_42 ?_
        refine q_aload_n C dX2_apart_43 rfl 3 rfl ?_
        refine q_iload C dX2_apart_44 0 rfl ?_
        refine q_callNi C (As := [.int (nI j)]) (rest := [.int (V (20 + ow) j)]) (k := 27 + (1 + pa)) (q_isG (by omega)).1 (q_enG (by omega)) rfl rfl (kX1_cellsA l σ V G (q_ag_rfl V) hn2 hp hpa (nI j)) 1 (host := RX2) gX2_apart_X1_cellsOf_n92 rfl rfl rfl (by decide +kernel) (by decide +kernel) (by decide +kernel) (by decide +kernel) (by decide +kernel) ⟨Nat.le_of_ble_eq_true rfl, Nat.le_of_ble_eq_true rfl⟩ dX2_apart_46 rfl (Nat.le_of_ble_eq_true rfl) ⟨Nat.le_of_ble_eq_true rfl, Nat.le_of_ble_eq_true rfl⟩ (fun r_46 V_9 G_10 hq_46 => ?_)
        obtain ⟨rfl, rfl, rfl⟩ := hq_46
        refine q_iadd C dX2_apart_49 ?_
        refine q_ldc C (nI 100000) dX2_apart_50 (by decide +kernel) ?_
        refine q_icmp_le C 65 dX2_apart_52 (by decide) (fun c_52 => ?_) (fun c_52 => ?_)
        · skip
          refine q_iincN C [(4, .int (nI (j + 1))), (0, .ref (σ.2.1 0)), (1, .int (nI b)), (2, .ref (σ.2.1 (27 + (1 + pa)))), (3, .ref (σ.2.1 (20 + ow)))] dX2_apart_65 0 rfl (by decide) rfl ?_
          refine q_goto C 32 dX2_apart_68 (by decide) ?_
          refine q_sub (lv' := [(4, .int (nI (j + 1))), (0, .ref (σ.2.1 0)), (1, .int (nI b)), (2, .ref (σ.2.1 (27 + (1 + pa)))), (3, .ref (σ.2.1 (20 + ow)))]) [0, 1, 2, 3, 4] rfl ?_
          exact ihL_3 (j + 1) (by omega) (lt_s hnd c_52) (by omega)
        · skip
          refine q_throw C "java/lang/IllegalStateException" "too many beads in the hand" T hlf rfl (by decide +kernel) (by decide +kernel) (by decide +kernel) (by decide +kernel) (by decide +kernel) (by decide +kernel) dX2_apart_55 dX2_apart_58 dX2_apart_59 dX2_apart_61 dX2_apart_64 (Nat.le_of_ble_eq_true rfl) (Nat.le_of_ble_eq_true rfl) (Nat.le_of_ble_eq_true rfl) (Nat.le_of_ble_eq_true rfl) (Nat.le_of_ble_eq_true rfl) (Nat.le_of_ble_eq_true rfl) ?_
          rw [q_n_nI (n := b) (by omega), hpe, howe, q_n_nI (n := pa) (by omega), q_n_nI (n := ow) (by omega)]
          first | exact ⟨q_xc_i (q_c2_2 ⟨b, hb, rfl, hb9⟩ (fun q => c_52 (q j c_36))) rfl, rfl, rfl⟩
  refine q_sub (lv' := [(4, .int (nI 0)), (0, .ref (σ.2.1 0)), (1, .int (nI b)), (2, .ref (σ.2.1 (27 + (1 + pa)))), (3, .ref (σ.2.1 (20 + ow)))]) [0, 3, 4, 2, 1] rfl ?_
  exact L_3 _ 0 (Nat.zero_le _) lt_0 (Nat.lt_succ_self _)
abbrev rX2_weave : Room := { frames := 7, cells := 6, slots := 36, locals := 111 }
theorem iX2_weave_X2 : ∀ w ∈ u_ws RX2 TX2 15, w ∈ wsX2_weave := by decide +kernel
set_option maxHeartbeats 4000000 in
set_option maxRecDepth 100000 in
/-- weave -/
theorem kX2_weave (l : Launch) (σ : q_E) (V : q_V) (G : q_G) (hlf : l.stackTraces = false) {n : Nat} (hn : V 0 6 = nI n) (hn2 : n ≤ 12) (hp : q_cpats V n) (hau : ∀ pa, pa < n → ∃ a, a < 7 ∧ V 5 pa = nI a) (x y : Int32) : q_Xi l yX2_weave wsX2_weave rX2_weave σ [.ref (σ.2.1 0), .int x, .int y] V G (fun r V' G' => (q_c2 (q_ok 7 x ∧ q_ok n y) ((∃ b, b < 20 ∧ V 6 b = -1) ∧ ∀ k, k < 8 → nI (q_cneeds V (q_n y) (nI k)) ≤ V (20 + q_n x) k)) = 0 ∧ (∃ kf o, kf < 20 ∧ (∀ b, b < kf → ¬ V 6 b = -1) ∧ V 6 kf = -1 ∧ nI kf = r ∧ q_corg V (q_n y) o ∧ (q_up (q_up (q_up (q_subr V (q_n x) (fun k => nI (q_cneeds V (q_n y) (nI k))) 8) 6 kf y) 7 kf x) 8 (q_n (V 5 o)) (V 8 (q_n (V 5 o)) + nI 1)) = V') ∧ G = G') ((fun E V' G' => q_xc [xI, xS] (q_c2 (q_ok 7 x ∧ q_ok n y) ((∃ b, b < 20 ∧ V 6 b = -1) ∧ ∀ k, k < 8 → nI (q_cneeds V (q_n y) (nI k)) ≤ V (20 + q_n x) k)) E ∧ V = V' ∧ G = G')) 6 36 := by
  refine q_Xi_of (cc := cX2_weave) (maxL := 6) (lv := [(0, .ref (σ.2.1 0)), (1, .int x), (2, .int y)]) (by decide +kernel) rfl (Nat.le_of_ble_eq_true rfl) rfl ?_
  intro p e s m args below meth c Q C hR hO T
  refine q_iload_n C dX2_weave_0 rfl 1 rfl ?_
  refine q_xcallSv C (As := [.int x]) (rest := []) (kX2_checkPerson l σ V G hlf x) 1 gX2_weave_X2_checkPerson rfl rfl rfl (by decide +kernel) ⟨Nat.le_of_ble_eq_true rfl, Nat.le_of_ble_eq_true rfl⟩ dX2_weave_1 rfl (Nat.le_of_ble_eq_true rfl) ⟨Nat.le_of_ble_eq_true rfl, Nat.le_of_ble_eq_true rfl⟩ (fun E_1 V_1 G_2 hx_1 => ?_) (fun V_1 G_2 hq_1 => ?_)
  · skip
    obtain ⟨rfl, n_1, rfl, rfl⟩ := hx_1
    refine hO _ _ _ _ _ _ _ _ ?_ (Nat.le_of_ble_eq_true rfl) (Nat.le_of_ble_eq_true rfl)
    first | exact ⟨q_xc_i (q_c2_1 (fun q => n_1 q.1)) rfl, rfl, rfl⟩
  obtain ⟨p_1, rfl, rfl⟩ := hq_1
  obtain ⟨a, ha, rfl⟩ := p_1
  refine q_aload_n C dX2_weave_4 rfl 0 rfl ?_
  refine q_iload_n C dX2_weave_5 rfl 2 rfl ?_
  refine q_xcallVv C (As := [.int y]) (rest := []) (k := 0) (by omega) q_enBP rfl rfl (kX2_checkPattern l σ V G hlf hn hn2 y) 1 gX2_weave_X2_checkPattern rfl rfl rfl (by decide +kernel) ⟨Nat.le_of_ble_eq_true rfl, Nat.le_of_ble_eq_true rfl⟩ dX2_weave_6 rfl (Nat.le_of_ble_eq_true rfl) ⟨Nat.le_of_ble_eq_true rfl, Nat.le_of_ble_eq_true rfl⟩ (fun E_6 V_3 G_4 hx_6 => ?_) (fun V_3 G_4 hq_6 => ?_)
  · skip
    obtain ⟨rfl, n_6, rfl, rfl⟩ := hx_6
    refine hO _ _ _ _ _ _ _ _ ?_ (Nat.le_of_ble_eq_true rfl) (Nat.le_of_ble_eq_true rfl)
    first | exact ⟨q_xc_i (q_c2_1 (fun q => n_6 q.2)) rfl, rfl, rfl⟩
  obtain ⟨p_6, rfl, rfl⟩ := hq_6
  obtain ⟨pa, hpa, rfl⟩ := p_6
  refine q_aload_n C dX2_weave_9 rfl 0 rfl ?_
  refine q_callVi C (As := []) (rest := []) (k := 0) (by omega) q_enBP rfl rfl (kX2_lowestFreeBelt l σ V G) 0 gX2_weave_X2_lowestFreeBelt rfl rfl rfl (by decide +kernel) ⟨Nat.le_of_ble_eq_true rfl, Nat.le_of_ble_eq_true rfl⟩ dX2_weave_10 rfl (Nat.le_of_ble_eq_true rfl) ⟨Nat.le_of_ble_eq_true rfl, Nat.le_of_ble_eq_true rfl⟩ (fun r_10 V_5 G_6 hq_10 => ?_)
  obtain ⟨hf_10, rfl, rfl⟩ := hq_10
  refine q_istore_n C [(3, .int r_10), (0, .ref (σ.2.1 0)), (1, .int (nI a)), (2, .int (nI pa))] dX2_weave_13 rfl (by decide) rfl ?_
  refine q_iload_n C dX2_weave_14 rfl 0 rfl ?_
  refine q_iconst C ((-1)) dX2_weave_15 (by decide) ?_
  refine q_icmp_ne C 29 dX2_weave_16 (by decide) (fun c_16 => ?_) (fun c_16 => ?_)
  · skip
    obtain ⟨kf, hkf, hlow, hfr, rfl⟩ := hf_10.resolve_right (fun q => c_16 q.2.symm)
    refine q_aload_n C dX2_weave_29 rfl 1 rfl ?_
    refine q_get C (k := 0) (fi := 4) (.ref (σ.2.1 4)) (by omega) q_enBP rfl iX2_weave_X2 (by decide) (by decide +kernel) rfl rfl dX2_weave_30 ?_
    refine q_iload_n C dX2_weave_33 rfl 3 rfl ?_
    refine q_aaldP C (by omega) dX2_weave_34 ?_
    refine q_stk (st' := [.ref (σ.2.1 (27 + (1 + pa)))]) (by rw [show 27 + (1 + pa) = 28 + pa by omega]) ?_
    refine q_astore C [(4, .ref (σ.2.1 (27 + (1 + pa)))), (3, .int (nI kf)), (0, .ref (σ.2.1 0)), (1, .int (nI a)), (2, .int (nI pa))] dX2_weave_35 (by decide) rfl ?_
    refine q_iconst C (nI 0) dX2_weave_37 (by decide) ?_
    refine q_istore C [(5, .int (nI 0)), (4, .ref (σ.2.1 (27 + (1 + pa)))), (3, .int (nI kf)), (0, .ref (σ.2.1 0)), (1, .int (nI a)), (2, .int (nI pa))] dX2_weave_38 (by decide) rfl ?_
    have L_7 : ∀ (nL_7 : Nat) (j : Nat) (hj : j ≤ 8) (hnd : ∀ k, k < j → nI (q_cneeds V pa (nI k)) ≤ V (20 + a) k), 8 - j < nL_7 → q_W σ p l e rX2_weave s m args below meth c Q 6 2 12 V G [(5, .int (nI j)), (0, .ref (σ.2.1 0)), (1, .int (nI a)), (2, .int (nI pa)), (3, .int (nI kf)), (4, .ref (σ.2.1 (27 + (1 + pa))))] 40 [] := by
      intro nL_7
      induction nL_7 with
      | zero => intro j hj hnd h; exact absurd h (Nat.not_lt_zero _)
      | succ nL_7 ihL_7 =>
        intro j hj hnd hmL_7
        refine q_iload C dX2_weave_40 0 rfl ?_
        refine q_bipush C (nI 8) dX2_weave_42 (by decide) ?_
        refine q_icmp_geN C 82 dX2_weave_44 (by decide) (by omega) (by omega) (fun c_44 => ?_) (fun c_44 => ?_)
        · skip
          have hnd8 : ∀ k, k < 8 → nI (q_cneeds V pa (nI k)) ≤ V (20 + a) k := fun k hk => hnd k (by omega)
          refine q_iconst C (nI 0) dX2_weave_82 (by decide) ?_
          refine q_istore C [(5, .int (nI 0)), (0, .ref (σ.2.1 0)), (1, .int (nI a)), (2, .int (nI pa)), (3, .int (nI kf)), (4, .ref (σ.2.1 (27 + (1 + pa))))] dX2_weave_83 (by decide) rfl ?_
          have L_8 : ∀ (nL_8 : Nat) (j : Nat) (hj : j ≤ 8), 8 - j < nL_8 → q_W σ p l e rX2_weave s m args below meth c Q 6 2 12 (q_subr V a (fun k => nI (q_cneeds V pa (nI k))) j) G [(5, .int (nI j)), (0, .ref (σ.2.1 0)), (1, .int (nI a)), (2, .int (nI pa)), (3, .int (nI kf)), (4, .ref (σ.2.1 (27 + (1 + pa))))] 85 [] := by
            intro nL_8
            induction nL_8 with
            | zero => intro j hj h; exact absurd h (Nat.not_lt_zero _)
            | succ nL_8 ihL_8 =>
              intro j hj hmL_8
              refine q_iload C dX2_weave_85 0 rfl ?_
              refine q_bipush C (nI 8) dX2_weave_87 (by decide) ?_
              refine q_icmp_geN C 117 dX2_weave_89 (by decide) (by omega) (by omega) (fun c_89 => ?_) (fun c_89 => ?_)
              · skip
                refine q_aload_n C dX2_weave_117 rfl 1 rfl ?_
                refine q_get C (k := 0) (fi := 7) (.ref (σ.2.1 6)) (by omega) q_enBP rfl iX2_weave_X2 (by decide) (by decide +kernel) rfl rfl dX2_weave_118 ?_
                refine q_iload_n C dX2_weave_121 rfl 4 rfl ?_
                refine q_iload_n C dX2_weave_122 rfl 3 rfl ?_
                refine q_iastN C (k := 6) (n := 20) ⟨by decide, by decide, by decide⟩ (by omega) (by decide) dX2_weave_123 ?_
                refine q_aload_n C dX2_weave_124 rfl 1 rfl ?_
                refine q_get C (k := 0) (fi := 8) (.ref (σ.2.1 7)) (by omega) q_enBP rfl iX2_weave_X2 (by decide) (by decide +kernel) rfl rfl dX2_weave_125 ?_
                refine q_iload_n C dX2_weave_128 rfl 4 rfl ?_
                refine q_iload_n C dX2_weave_129 rfl 2 rfl ?_
                refine q_iastN C (k := 7) (n := 20) ⟨by decide, by decide, by decide⟩ (by omega) (by decide) dX2_weave_130 ?_
                refine q_aload_n C dX2_weave_131 rfl 1 rfl ?_
                refine q_get C (k := 0) (fi := 9) (.ref (σ.2.1 8)) (by omega) q_enBP rfl iX2_weave_X2 (by decide) (by decide +kernel) rfl rfl dX2_weave_132 ?_
                refine q_aload_n C dX2_weave_135 rfl 1 rfl ?_
                refine q_get C (k := 0) (fi := 5) (.ref (σ.2.1 5)) (by omega) q_enBP rfl iX2_weave_X2 (by decide) (by decide +kernel) rfl rfl dX2_weave_136 ?_
                refine q_aload_n C dX2_weave_139 rfl 1 rfl ?_
                refine q_iload_n C dX2_weave_140 rfl 3 rfl ?_
                have hag9 := q_ag_up (k := 7) (j := kf) (x := nI a) (q_ag_up (k := 6) (j := kf) (x := nI pa) (q_ag_subr V ha (fun k => nI (q_cneeds V pa (nI k))) j) (by decide)) (by decide)
                refine q_callVi C (As := [.int (nI pa)]) (rest := [.ref (σ.2.1 5), .ref (σ.2.1 8)]) (k := 0) (by omega) q_enBP rfl rfl (kX2_originOf l σ (q_up (q_up (q_subr V a (fun k => nI (q_cneeds V pa (nI k))) j) 6 kf (nI pa)) 7 kf (nI a)) G hn2 (q_cpats_ag hag9 hp) hpa) 1 gX2_weave_X2_originOf rfl rfl rfl (by decide +kernel) ⟨Nat.le_of_ble_eq_true rfl, Nat.le_of_ble_eq_true rfl⟩ dX2_weave_141 rfl (Nat.le_of_ble_eq_true rfl) ⟨Nat.le_of_ble_eq_true rfl, Nat.le_of_ble_eq_true rfl⟩ (fun r_141 V_9 G_10 hq_141 => ?_)
                obtain ⟨⟨o9, ho9, rfl⟩, rfl, rfl⟩ := hq_141
                have ho912 : o9 < n := by have := ho9.1; omega
                obtain ⟨au, hau7, haue⟩ := hau o9 (by have := ho9.1; omega)
                refine q_ialdN C (k := 5) (n := 12) ⟨by decide, by decide, by decide⟩ (by omega) (by decide) dX2_weave_144 ?_
                refine q_stk (st' := [.int ((q_subr V a (fun k => nI (q_cneeds V pa (nI k))) j) 5 o9), .ref (σ.2.1 8)]) (congrArg (fun z => Value.int z :: [.ref (σ.2.1 8)]) ((q_up_ne _ _ (by omega)).trans (q_up_ne _ _ (by omega)))) ?_
                refine q_stk (st' := [.int (nI au), .ref (σ.2.1 8)]) (congrArg (fun z => Value.int z :: [.ref (σ.2.1 8)]) ((show q_subr V a (fun k => nI (q_cneeds V pa (nI k))) j 5 o9 = V 5 o9 from if_neg (by omega)).trans haue)) ?_
                refine q_dup2 C dX2_weave_145 rfl rfl ?_
                refine q_ialdN C (k := 8) (n := 7) ⟨by decide, by decide, by decide⟩ (by omega) (by decide) dX2_weave_146 ?_
                refine q_stk (st' := [.int ((q_subr V a (fun k => nI (q_cneeds V pa (nI k))) j) 8 au), .int (nI au), .ref (σ.2.1 8)]) (congrArg (fun z => Value.int z :: [.int (nI au), .ref (σ.2.1 8)]) ((q_up_ne _ _ (by omega)).trans (q_up_ne _ _ (by omega)))) ?_
                refine q_iconst C (nI 1) dX2_weave_147 (by decide) ?_
                refine q_iadd C dX2_weave_148 ?_
                refine q_iastN C (k := 8) (n := 7) ⟨by decide, by decide, by decide⟩ (by omega) (by decide) dX2_weave_149 ?_
                refine q_iload_n C dX2_weave_150 rfl 4 rfl ?_
                refine hR _ _ _ _ _ _ _ ?_ rfl (Nat.le_of_ble_eq_true rfl) (Nat.le_of_ble_eq_true rfl) dX2_weave_151
                obtain rfl : j = 8 := by omega
                have e8 : q_subr V a (fun k => nI (q_cneeds V pa (nI k))) 8 8 au = V 8 au := if_neg (by omega)
                rw [q_n_nI (n := a) (by omega), q_n_nI (n := pa) (by omega)]
                refine ⟨q_c2_0 ⟨q_ok_nI ha, q_ok_nI hpa⟩ ⟨⟨kf, hkf, hfr⟩, hnd8⟩, ⟨kf, o9, hkf, hlow, hfr, rfl, q_corg_ag hag9 ho9, ?_⟩, rfl⟩
                rw [haue, q_n_nI (n := au) (by omega), ← e8] <;> rfl
              · skip
                refine q_aload_n C dX2_weave_92 rfl 1 rfl ?_
                refine q_get C (k := 0) (fi := 0) (.ref (σ.2.1 1)) (by omega) q_enBP rfl iX2_weave_X2 (by decide) (by decide +kernel) rfl rfl dX2_weave_93 ?_
                refine q_iload_n C dX2_weave_96 rfl 2 rfl ?_
                refine q_aaldH C (by omega) dX2_weave_97 ?_
                refine q_iload C dX2_weave_98 0 rfl ?_
                refine q_dup2 C dX2_weave_100 rfl rfl ?_
                refine q_ialdN C (k := 20 + a) (q_isI_hand (by omega)) (by omega) (by decide) dX2_weave_101 ?_
                refine q_aload C dX2_weave_102 5 rfl ?_
                refine q_iload C dX2_weave_104 0 rfl ?_
                refine q_callNi C (As := [.int (nI j)]) (rest := [.int ((q_subr V a (fun k => nI (q_cneeds V pa (nI k))) j) (20 + a) j), .int (nI j), .ref (σ.2.1 (20 + a))]) (k := 27 + (1 + pa)) (q_isG (by omega)).1 (q_enG (by omega)) rfl rfl (kX1_cellsA l σ (q_subr V a (fun k => nI (q_cneeds V pa (nI k))) j) G (q_ag_subr V ha (fun k => nI (q_cneeds V pa (nI k))) j) hn2 hp hpa (nI j)) 1 (host := RX2) gX2_weave_X1_cellsOf_n92 rfl rfl rfl (by decide +kernel) (by decide +kernel) (by decide +kernel) (by decide +kernel) (by decide +kernel) ⟨Nat.le_of_ble_eq_true rfl, Nat.le_of_ble_eq_true rfl⟩ dX2_weave_106 rfl (Nat.le_of_ble_eq_true rfl) ⟨Nat.le_of_ble_eq_true rfl, Nat.le_of_ble_eq_true rfl⟩ (fun r_106 V_11 G_12 hq_106 => ?_)
                obtain ⟨rfl, rfl, rfl⟩ := hq_106
                refine q_isub C dX2_weave_109 ?_
                refine q_iastN C (k := 20 + a) (q_isI_hand (by omega)) (by omega) (by decide) dX2_weave_110 ?_
                refine q_VG (V' := q_subr V a (fun k => nI (q_cneeds V pa (nI k))) (j + 1)) (G' := G) (by exact q_subr_succ V a (fun k => nI (q_cneeds V pa (nI k))) j) rfl ?_
                refine q_iincN C [(5, .int (nI (j + 1))), (0, .ref (σ.2.1 0)), (1, .int (nI a)), (2, .int (nI pa)), (3, .int (nI kf)), (4, .ref (σ.2.1 (27 + (1 + pa))))] dX2_weave_111 0 rfl (by decide) rfl ?_
                refine q_goto C 85 dX2_weave_114 (by decide) ?_
                refine q_sub (lv' := [(5, .int (nI (j + 1))), (0, .ref (σ.2.1 0)), (1, .int (nI a)), (2, .int (nI pa)), (3, .int (nI kf)), (4, .ref (σ.2.1 (27 + (1 + pa))))]) [0, 1, 2, 3, 4, 5] rfl ?_
                exact ihL_8 (j + 1) (by omega) (by omega)
          refine q_sub (lv' := [(5, .int (nI 0)), (0, .ref (σ.2.1 0)), (1, .int (nI a)), (2, .int (nI pa)), (3, .int (nI kf)), (4, .ref (σ.2.1 (27 + (1 + pa))))]) [0, 1, 2, 3, 4, 5] rfl ?_
          refine q_VG (V' := q_subr V a (fun k => nI (q_cneeds V pa (nI k))) 0) (G' := G) ((q_subr_0 _ _ _).symm) rfl ?_
          exact L_8 _ 0 (Nat.zero_le _) (Nat.lt_succ_self _)
        · skip
          refine q_aload_n C dX2_weave_47 rfl 1 rfl ?_
          refine q_get C (k := 0) (fi := 0) (.ref (σ.2.1 1)) (by omega) q_enBP rfl iX2_weave_X2 (by decide) (by decide +kernel) rfl rfl dX2_weave_48 ?_
          refine q_iload_n C dX2_weave_51 rfl 2 rfl ?_
          refine q_aaldH C (by omega) dX2_weave_52 ?_
          refine q_iload C dX2_weave_53 0 rfl ?_
          refine q_ialdN C (k := 20 + a) (q_isI_hand (by omega)) (by omega) (by decide) dX2_weave_55 ?_
          refine q_aload C dX2_weave_56 5 rfl ?_
          refine q_iload C dX2_weave_58 0 rfl ?_
          refine q_callNi C (As := [.int (nI j)]) (rest := [.int (V (20 + a) j)]) (k := 27 + (1 + pa)) (q_isG (by omega)).1 (q_enG (by omega)) rfl rfl (kX1_cellsA l σ V G (q_ag_rfl V) hn2 hp hpa (nI j)) 1 (host := RX2) gX2_weave_X1_cellsOf_n92 rfl rfl rfl (by decide +kernel) (by decide +kernel) (by decide +kernel) (by decide +kernel) (by decide +kernel) ⟨Nat.le_of_ble_eq_true rfl, Nat.le_of_ble_eq_true rfl⟩ dX2_weave_60 rfl (Nat.le_of_ble_eq_true rfl) ⟨Nat.le_of_ble_eq_true rfl, Nat.le_of_ble_eq_true rfl⟩ (fun r_60 V_13 G_14 hq_60 => ?_)
          obtain ⟨rfl, rfl, rfl⟩ := hq_60
          refine q_icmp_ge C 76 dX2_weave_63 (by decide) (fun c_63 => ?_) (fun c_63 => ?_)
          · skip
            refine q_iincN C [(5, .int (nI (j + 1))), (0, .ref (σ.2.1 0)), (1, .int (nI a)), (2, .int (nI pa)), (3, .int (nI kf)), (4, .ref (σ.2.1 (27 + (1 + pa))))] dX2_weave_76 0 rfl (by decide) rfl ?_
            refine q_goto C 40 dX2_weave_79 (by decide) ?_
            refine q_sub (lv' := [(5, .int (nI (j + 1))), (0, .ref (σ.2.1 0)), (1, .int (nI a)), (2, .int (nI pa)), (3, .int (nI kf)), (4, .ref (σ.2.1 (27 + (1 + pa))))]) [0, 1, 2, 3, 4, 5] rfl ?_
            exact ihL_7 (j + 1) (by omega) (lt_s hnd c_63) (by omega)
          · skip
            refine q_throw C "java/lang/IllegalStateException" "too few beads in the hand" T hlf rfl (by decide +kernel) (by decide +kernel) (by decide +kernel) (by decide +kernel) (by decide +kernel) (by decide +kernel) dX2_weave_66 dX2_weave_69 dX2_weave_70 dX2_weave_72 dX2_weave_75 (Nat.le_of_ble_eq_true rfl) (Nat.le_of_ble_eq_true rfl) (Nat.le_of_ble_eq_true rfl) (Nat.le_of_ble_eq_true rfl) (Nat.le_of_ble_eq_true rfl) (Nat.le_of_ble_eq_true rfl) ?_
            rw [q_n_nI (n := a) (by omega), q_n_nI (n := pa) (by omega)]
            first | exact ⟨q_xc_i (q_c2_2 ⟨q_ok_nI ha, q_ok_nI hpa⟩ (fun q => c_63 (q.2 j c_44))) rfl, rfl, rfl⟩
    refine q_sub (lv' := [(5, .int (nI 0)), (0, .ref (σ.2.1 0)), (1, .int (nI a)), (2, .int (nI pa)), (3, .int (nI kf)), (4, .ref (σ.2.1 (27 + (1 + pa))))]) [0, 3, 4, 5, 2, 1] rfl ?_
    exact L_7 _ 0 (Nat.zero_le _) lt_0 (Nat.lt_succ_self _)
  · skip
    refine q_throw C "java/lang/IllegalStateException" "no room for a belt" T hlf rfl (by decide +kernel) (by decide +kernel) (by decide +kernel) (by decide +kernel) (by decide +kernel) (by decide +kernel) dX2_weave_19 dX2_weave_22 dX2_weave_23 dX2_weave_25 dX2_weave_28 (Nat.le_of_ble_eq_true rfl) (Nat.le_of_ble_eq_true rfl) (Nat.le_of_ble_eq_true rfl) (Nat.le_of_ble_eq_true rfl) (Nat.le_of_ble_eq_true rfl) (Nat.le_of_ble_eq_true rfl) ?_
    exact ⟨q_xc_i (q_c2_2 ⟨q_ok_nI ha, q_ok_nI hpa⟩ (fun ⟨⟨b, hb, e⟩, _⟩ => hf_10.elim (fun ⟨k, hk, _, _, e9⟩ => q_nI_ne1 (by omega) (e9.trans c_16)) (fun q => q.1 b hb e))) rfl, rfl, rfl⟩
