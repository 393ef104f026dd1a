abbrev rL_refused_0 : Room := { frames := 8, cells := 6, slots := 36, locals := 136 }
set_option maxHeartbeats 4000000 in
set_option maxRecDepth 100000 in
/-- refused, weave -/
theorem kL_refused_0 (l : Launch) (σ : q_E) (V : q_V) (G : q_G) (hlf : l.stackTraces = false) {n : Nat} (hn : V 0 6 = nI n) (hn2 : n ≤ 12) (hp : q_cpats V n) (hau : ∀ pa, pa < n → ∃ a, a < 7 ∧ V 5 pa = nI a) (x y : Int32) (x9 : Int32) (hc : (q_c2 (q_ok 7 x ∧ q_ok n y) ((∃ b, b < 20 ∧ V 6 b = -1) ∧ ∀ k, k < 8 → nI (q_cneeds V (q_n y) (nI k)) ≤ V (20 + q_n x) k)) = 2) : q_Mi l yL_refused wsL_refused rL_refused_0 σ [.ref (σ.2.1 0), .int (nI 0), .int x, .int y, .int x9] V G (fun r V' G' => nI 3 = r ∧ V = V' ∧ G = G') 6 36 := by
  refine q_Wi_of (cc := cL_refused) (maxL := 6) (lv := [(0, .ref (σ.2.1 0)), (1, .int (nI 0)), (2, .int x), (3, .int y), (4, .int x9)]) (by decide +kernel) rfl (Nat.le_of_ble_eq_true rfl) rfl ?_
  intro p e s m args below meth c Q C htab hR
  refine q_iload_n C dL_refused_0 rfl 1 rfl ?_
  refine q_if_ne C 13 dL_refused_1 (by decide) (fun c_1 => absurd c_1 (by decide)) (fun _ => ?_)
  refine q_aload_n C dL_refused_4 rfl 0 rfl ?_
  refine q_iload_n C dL_refused_5 rfl 2 rfl ?_
  refine q_iload_n C dL_refused_6 rfl 3 rfl ?_
  refine q_xcallVi C (As := [.int x, .int y]) (rest := []) (k := 0) (by omega) q_enBP rfl rfl (kX2_weave l σ V G hlf hn hn2 hp hau x y) 2 gL_refused_X2_weave rfl rfl rfl (by decide +kernel) ⟨Nat.le_of_ble_eq_true rfl, Nat.le_of_ble_eq_true rfl⟩ dL_refused_7 rfl (Nat.le_of_ble_eq_true rfl) ⟨Nat.le_of_ble_eq_true rfl, Nat.le_of_ble_eq_true rfl⟩ (fun E_7 V_1 G_2 hx_7 => ?_) (fun r_7 V_1 G_2 hq_7 => ?_)
  · skip
    rcases q_xc2 hx_7.1 with ⟨hcd, rfl⟩ | ⟨hcd, rfl⟩
    · skip
      exact absurd (hc.symm.trans hcd) (by decide)
    · skip
      refine q_catch C htab [((0, 78, 79, 57), "java/lang/IndexOutOfBoundsException"), ((0, 78, 83, 59), "java/lang/IllegalArgumentException")] 0 78 87 61 "java/lang/IllegalStateException" [] rfl (by decide +kernel) (by decide) (by decide) (by decide) (by decide +kernel) (by decide +kernel) (fun q9 => ?_)
      refine q_astore C [(5, .ref q9), (0, .ref (σ.2.1 0)), (1, .int (nI 0)), (2, .int x), (3, .int y), (4, .int x9)] dL_refused_87 (by decide) rfl ?_
      refine q_iconst C (nI 3) dL_refused_89 (by decide) ?_
      refine hR _ _ _ _ _ _ _ ?_ rfl (Nat.le_of_ble_eq_true rfl) (Nat.le_of_ble_eq_true rfl) dL_refused_90
      exact ⟨rfl, hx_7.2.1, hx_7.2.2⟩
  exact absurd (hc.symm.trans hq_7.1) (by decide)
abbrev rL_refused_1 : Room := { frames := 8, cells := 6, slots := 36, locals := 137 }
set_option maxHeartbeats 4000000 in
set_option maxRecDepth 100000 in
/-- refused, lay -/
theorem kL_refused_1 (l : Launch) (σ : q_E) (V : q_V) (G : q_G) (hlf : l.stackTraces = false)  (x y z : Int32) (hc : (q_c3 (q_ok 7 x ∧ q_ok 8 y) (¬ z < -1000 ∧ ¬ nI 1000 < z) (¬ V (20 + q_n x) (q_n y) - z < 0 ∧ ¬ nI 100000 < V (20 + q_n x) (q_n y) - z ∧ 0 ≤ V 2 (q_n y) + z)) = 3) : q_Mi l yL_refused wsL_refused rL_refused_1 σ [.ref (σ.2.1 0), .int (nI 1), .int x, .int y, .int z] V G (fun r V' G' => nI 3 = r ∧ V = V' ∧ G = G') 6 36 := by
  refine q_Wi_of (cc := cL_refused) (maxL := 6) (lv := [(0, .ref (σ.2.1 0)), (1, .int (nI 1)), (2, .int x), (3, .int y), (4, .int z)]) (by decide +kernel) rfl (Nat.le_of_ble_eq_true rfl) rfl ?_
  intro p e s m args below meth c Q C htab hR
  refine q_iload_n C dL_refused_0 rfl 1 rfl ?_
  refine q_if_ne C 13 dL_refused_1 (by decide) (fun _ => ?_) (fun c_1 => absurd c_1 (by decide))
  refine q_iload_n C dL_refused_13 rfl 1 rfl ?_
  refine q_iconst C (nI 1) dL_refused_14 (by decide) ?_
  refine q_icmp_neN C 29 dL_refused_15 (by decide) (by omega) (by omega) (fun c_15 => absurd c_15 (by omega)) (fun _ => ?_)
  refine q_aload_n C dL_refused_18 rfl 0 rfl ?_
  refine q_iload_n C dL_refused_19 rfl 2 rfl ?_
  refine q_iload_n C dL_refused_20 rfl 3 rfl ?_
  refine q_iload C dL_refused_21 4 rfl ?_
  refine q_xcallVi C (As := [.int x, .int y, .int z]) (rest := []) (k := 0) (by omega) q_enBP rfl rfl (kX2_lay l σ V G hlf x y z) 3 gL_refused_X2_lay rfl rfl rfl (by decide +kernel) ⟨Nat.le_of_ble_eq_true rfl, Nat.le_of_ble_eq_true rfl⟩ dL_refused_23 rfl (Nat.le_of_ble_eq_true rfl) ⟨Nat.le_of_ble_eq_true rfl, Nat.le_of_ble_eq_true rfl⟩ (fun E_23 V_1 G_2 hx_23 => ?_) (fun r_23 V_1 G_2 hq_23 => ?_)
  · skip
    rcases q_xc3 hx_23.1 with ⟨hcd, rfl⟩ | ⟨hcd, rfl⟩ | ⟨hcd, rfl⟩
    · skip
      exact absurd (hc.symm.trans hcd) (by decide)
    · skip
      exact absurd (hc.symm.trans hcd) (by decide)
    · skip
      refine q_catch C htab [((0, 78, 79, 57), "java/lang/IndexOutOfBoundsException"), ((0, 78, 83, 59), "java/lang/IllegalArgumentException")] 0 78 87 61 "java/lang/IllegalStateException" [] rfl (by decide +kernel) (by decide) (by decide) (by decide) (by decide +kernel) (by decide +kernel) (fun q9 => ?_)
      refine q_astore C [(5, .ref q9), (0, .ref (σ.2.1 0)), (1, .int (nI 1)), (2, .int x), (3, .int y), (4, .int z)] dL_refused_87 (by decide) rfl ?_
      refine q_iconst C (nI 3) dL_refused_89 (by decide) ?_
      refine hR _ _ _ _ _ _ _ ?_ rfl (Nat.le_of_ble_eq_true rfl) (Nat.le_of_ble_eq_true rfl) dL_refused_90
      exact ⟨rfl, hx_23.2.1, hx_23.2.2⟩
  exact absurd (hc.symm.trans hq_23.1) (by decide)
abbrev rL_refused_2 : Room := { frames := 8, cells := 6, slots := 36, locals := 135 }
set_option maxHeartbeats 4000000 in
set_option maxRecDepth 100000 in
/-- refused, apart -/
theorem kL_refused_2 (l : Launch) (σ : q_E) (V : q_V) (G : q_G) (hlf : l.stackTraces = false) {n : Nat} (hn2 : n ≤ 12) (hp : q_cpats V n) (hbl : q_cbelts V n) (how : ∀ b, b < 20 → ∃ a, a < 7 ∧ V 7 b = nI a) (x : Int32) (x9 y9 : Int32) (hc : (q_c2 (q_cisb V x) (∀ k, k < 8 → V (20 + q_n (V 7 (q_n x))) k + nI (q_cneeds V (q_n (V 6 (q_n x))) (nI k)) ≤ nI 100000)) = 1) : q_Mi l yL_refused wsL_refused rL_refused_2 σ [.ref (σ.2.1 0), .int (nI 2), .int x, .int x9, .int y9] V G (fun r V' G' => nI 1 = r ∧ V = V' ∧ G = G') 6 36 := by
  refine q_Wi_of (cc := cL_refused) (maxL := 6) (lv := [(0, .ref (σ.2.1 0)), (1, .int (nI 2)), (2, .int x), (3, .int x9), (4, .int y9)]) (by decide +kernel) rfl (Nat.le_of_ble_eq_true rfl) rfl ?_
  intro p e s m args below meth c Q C htab hR
  refine q_iload_n C dL_refused_0 rfl 1 rfl ?_
  refine q_if_ne C 13 dL_refused_1 (by decide) (fun _ => ?_) (fun c_1 => absurd c_1 (by decide))
  refine q_iload_n C dL_refused_13 rfl 1 rfl ?_
  refine q_iconst C (nI 1) dL_refused_14 (by decide) ?_
  refine q_icmp_neN C 29 dL_refused_15 (by decide) (by omega) (by omega) (fun _ => ?_) (fun c_15 => absurd c_15 (by omega))
  refine q_iload_n C dL_refused_29 rfl 1 rfl ?_
  refine q_iconst C (nI 2) dL_refused_30 (by decide) ?_
  refine q_icmp_neN C 42 dL_refused_31 (by decide) (by omega) (by omega) (fun c_31 => absurd c_31 (by omega)) (fun _ => ?_)
  refine q_aload_n C dL_refused_34 rfl 0 rfl ?_
  refine q_iload_n C dL_refused_35 rfl 2 rfl ?_
  refine q_xcallVi C (As := [.int x]) (rest := []) (k := 0) (by omega) q_enBP rfl rfl (kX2_apart l σ V G hlf hn2 hp hbl how x) 1 gL_refused_X2_apart rfl rfl rfl (by decide +kernel) ⟨Nat.le_of_ble_eq_true rfl, Nat.le_of_ble_eq_true rfl⟩ dL_refused_36 rfl (Nat.le_of_ble_eq_true rfl) ⟨Nat.le_of_ble_eq_true rfl, Nat.le_of_ble_eq_true rfl⟩ (fun E_36 V_1 G_2 hx_36 => ?_) (fun r_36 V_1 G_2 hq_36 => ?_)
  · skip
    rcases q_xc2 hx_36.1 with ⟨hcd, rfl⟩ | ⟨hcd, rfl⟩
    · skip
      refine q_catch C htab [] 0 78 79 57 "java/lang/IndexOutOfBoundsException" [(0, 78, 83, 59), (0, 78, 87, 61)] rfl (by decide +kernel) (by decide) (by decide) (by decide) (by decide +kernel) (by decide +kernel) (fun q9 => ?_)
      refine q_astore C [(5, .ref q9), (0, .ref (σ.2.1 0)), (1, .int (nI 2)), (2, .int x), (3, .int x9), (4, .int y9)] dL_refused_79 (by decide) rfl ?_
      refine q_iconst C (nI 1) dL_refused_81 (by decide) ?_
      refine hR _ _ _ _ _ _ _ ?_ rfl (Nat.le_of_ble_eq_true rfl) (Nat.le_of_ble_eq_true rfl) dL_refused_82
      exact ⟨rfl, hx_36.2.1, hx_36.2.2⟩
    · skip
      exact absurd (hc.symm.trans hcd) (by decide)
  exact absurd (hc.symm.trans hq_36.1) (by decide)
abbrev rL_refused_3 : Room := { frames := 8, cells := 6, slots := 36, locals := 132 }
set_option maxHeartbeats 4000000 in
set_option maxRecDepth 100000 in
/-- refused, owner -/
theorem kL_refused_3 (l : Launch) (σ : q_E) (V : q_V) (G : q_G) (hlf : l.stackTraces = false)  (x : Int32) (x9 y9 : Int32) (hc : (q_c1 (q_cisb V x)) = 1) : q_Mi l yL_refused wsL_refused rL_refused_3 σ [.ref (σ.2.1 0), .int (nI 3), .int x, .int x9, .int y9] V G (fun r V' G' => nI 1 = r ∧ V = V' ∧ G = G') 6 36 := by
  refine q_Wi_of (cc := cL_refused) (maxL := 6) (lv := [(0, .ref (σ.2.1 0)), (1, .int (nI 3)), (2, .int x), (3, .int x9), (4, .int y9)]) (by decide +kernel) rfl (Nat.le_of_ble_eq_true rfl) rfl ?_
  intro p e s m args below meth c Q C htab hR
  refine q_iload_n C dL_refused_0 rfl 1 rfl ?_
  refine q_if_ne C 13 dL_refused_1 (by decide) (fun _ => ?_) (fun c_1 => absurd c_1 (by decide))
  refine q_iload_n C dL_refused_13 rfl 1 rfl ?_
  refine q_iconst C (nI 1) dL_refused_14 (by decide) ?_
  refine q_icmp_neN C 29 dL_refused_15 (by decide) (by omega) (by omega) (fun _ => ?_) (fun c_15 => absurd c_15 (by omega))
  refine q_iload_n C dL_refused_29 rfl 1 rfl ?_
  refine q_iconst C (nI 2) dL_refused_30 (by decide) ?_
  refine q_icmp_neN C 42 dL_refused_31 (by decide) (by omega) (by omega) (fun _ => ?_) (fun c_31 => absurd c_31 (by omega))
  refine q_iload_n C dL_refused_42 rfl 1 rfl ?_
  refine q_iconst C (nI 3) dL_refused_43 (by decide) ?_
  refine q_icmp_neN C 55 dL_refused_44 (by decide) (by omega) (by omega) (fun c_44 => absurd c_44 (by omega)) (fun _ => ?_)
  refine q_aload_n C dL_refused_47 rfl 0 rfl ?_
  refine q_iload_n C dL_refused_48 rfl 2 rfl ?_
  refine q_xcallVi C (As := [.int x]) (rest := []) (k := 0) (by omega) q_enBP rfl rfl (kX2_owner l σ V G hlf x) 1 gL_refused_X2_owner rfl rfl rfl (by decide +kernel) ⟨Nat.le_of_ble_eq_true rfl, Nat.le_of_ble_eq_true rfl⟩ dL_refused_49 rfl (Nat.le_of_ble_eq_true rfl) ⟨Nat.le_of_ble_eq_true rfl, Nat.le_of_ble_eq_true rfl⟩ (fun E_49 V_1 G_2 hx_49 => ?_) (fun r_49 V_1 G_2 hq_49 => ?_)
  · skip
    have hcd := q_xc1 hx_49.1
    obtain ⟨hcd, rfl⟩ := hcd
    refine q_catch C htab [] 0 78 79 57 "java/lang/IndexOutOfBoundsException" [(0, 78, 83, 59), (0, 78, 87, 61)] rfl (by decide +kernel) (by decide) (by decide) (by decide) (by decide +kernel) (by decide +kernel) (fun q9 => ?_)
    refine q_astore C [(5, .ref q9), (0, .ref (σ.2.1 0)), (1, .int (nI 3)), (2, .int x), (3, .int x9), (4, .int y9)] dL_refused_79 (by decide) rfl ?_
    refine q_iconst C (nI 1) dL_refused_81 (by decide) ?_
    refine hR _ _ _ _ _ _ _ ?_ rfl (Nat.le_of_ble_eq_true rfl) (Nat.le_of_ble_eq_true rfl) dL_refused_82
    exact ⟨rfl, hx_49.2.1, hx_49.2.2⟩
  exact absurd (hc.symm.trans hq_49.1) (by decide)
abbrev rL_refused_4 : Room := { frames := 11, cells := 6, slots := 36, locals := 411 }
set_option maxHeartbeats 4000000 in
set_option maxRecDepth 100000 in
/-- refused, chainAt -/
theorem kL_refused_4 (l : Launch) (σ : q_E) (V : q_V) (G : q_G) (hlf : l.stackTraces = false) (hw2 : ∀ a, a < 7 → V 13 a = -1 ∨ ((∃ c, c < 8 ∧ V 13 a = nI c) ∧ ∃ d, d < 8 ∧ V 14 a = nI d)) (x : Int32) (x9 y9 : Int32) (hc : (q_c1 (q_ok (q_best (q_crd V) (q_cgt V)).length x)) = 1) : q_Mi l yL_refused wsL_refused rL_refused_4 σ [.ref (σ.2.1 0), .int (nI 4), .int x, .int x9, .int y9] V G (fun r V' G' => nI 1 = r ∧ q_boff V V' ∧ G = G') 6 36 := by
  refine q_Wi_of (cc := cL_refused) (maxL := 6) (lv := [(0, .ref (σ.2.1 0)), (1, .int (nI 4)), (2, .int x), (3, .int x9), (4, .int y9)]) (by decide +kernel) rfl (Nat.le_of_ble_eq_true rfl) rfl ?_
  intro p e s m args below meth c Q C htab hR
  refine q_iload_n C dL_refused_0 rfl 1 rfl ?_
  refine q_if_ne C 13 dL_refused_1 (by decide) (fun _ => ?_) (fun c_1 => absurd c_1 (by decide))
  refine q_iload_n C dL_refused_13 rfl 1 rfl ?_
  refine q_iconst C (nI 1) dL_refused_14 (by decide) ?_
  refine q_icmp_neN C 29 dL_refused_15 (by decide) (by omega) (by omega) (fun _ => ?_) (fun c_15 => absurd c_15 (by omega))
  refine q_iload_n C dL_refused_29 rfl 1 rfl ?_
  refine q_iconst C (nI 2) dL_refused_30 (by decide) ?_
  refine q_icmp_neN C 42 dL_refused_31 (by decide) (by omega) (by omega) (fun _ => ?_) (fun c_31 => absurd c_31 (by omega))
  refine q_iload_n C dL_refused_42 rfl 1 rfl ?_
  refine q_iconst C (nI 3) dL_refused_43 (by decide) ?_
  refine q_icmp_neN C 55 dL_refused_44 (by decide) (by omega) (by omega) (fun _ => ?_) (fun c_44 => absurd c_44 (by omega))
  refine q_iload_n C dL_refused_55 rfl 1 rfl ?_
  refine q_iconst C (nI 4) dL_refused_56 (by decide) ?_
  refine q_icmp_neN C 68 dL_refused_57 (by decide) (by omega) (by omega) (fun c_57 => absurd c_57 (by omega)) (fun _ => ?_)
  refine q_aload_n C dL_refused_60 rfl 0 rfl ?_
  refine q_iload_n C dL_refused_61 rfl 2 rfl ?_
  refine q_xcallVi C (As := [.int x]) (rest := []) (k := 0) (by omega) q_enBP rfl rfl (kX2_chainAt l σ V G hlf hw2 x) 1 gL_refused_X2_chainAt rfl rfl rfl (by decide +kernel) ⟨Nat.le_of_ble_eq_true rfl, Nat.le_of_ble_eq_true rfl⟩ dL_refused_62 rfl (Nat.le_of_ble_eq_true rfl) ⟨Nat.le_of_ble_eq_true rfl, Nat.le_of_ble_eq_true rfl⟩ (fun E_62 V_1 G_2 hx_62 => ?_) (fun r_62 V_1 G_2 hq_62 => ?_)
  · skip
    have hcd := q_xc1 hx_62.1
    obtain ⟨hcd, rfl⟩ := hcd
    refine q_catch C htab [] 0 78 79 57 "java/lang/IndexOutOfBoundsException" [(0, 78, 83, 59), (0, 78, 87, 61)] rfl (by decide +kernel) (by decide) (by decide) (by decide) (by decide +kernel) (by decide +kernel) (fun q9 => ?_)
    refine q_astore C [(5, .ref q9), (0, .ref (σ.2.1 0)), (1, .int (nI 4)), (2, .int x), (3, .int x9), (4, .int y9)] dL_refused_79 (by decide) rfl ?_
    refine q_iconst C (nI 1) dL_refused_81 (by decide) ?_
    refine hR _ _ _ _ _ _ _ ?_ rfl (Nat.le_of_ble_eq_true rfl) (Nat.le_of_ble_eq_true rfl) dL_refused_82
    exact ⟨rfl, hx_62.2.1, hx_62.2.2⟩
  exact absurd (hc.symm.trans hq_62.1) (by decide)
abbrev rL_refused_5 : Room := { frames := 8, cells := 6, slots := 36, locals := 134 }
set_option maxHeartbeats 4000000 in
set_option maxRecDepth 100000 in
/-- refused, bead -/
theorem kL_refused_5 (l : Launch) (σ : q_E) (V : q_V) (G : q_G) (hlf : l.stackTraces = false) {w h : Nat} (hd : q_gok V 0 w h) (x y z : Int32) (hc : (q_c1 (q_ok w x ∧ q_ok h y ∧ q_ok 8 z)) = 1) : q_Mi l yL_refused wsL_refused rL_refused_5 σ [.ref (σ.2.1 0), .int (nI 5), .int x, .int y, .int z] V G (fun r V' G' => nI 1 = r ∧ V = V' ∧ G = G') 6 36 := by
  refine q_Wi_of (cc := cL_refused) (maxL := 6) (lv := [(0, .ref (σ.2.1 0)), (1, .int (nI 5)), (2, .int x), (3, .int y), (4, .int z)]) (by decide +kernel) rfl (Nat.le_of_ble_eq_true rfl) rfl ?_
  intro p e s m args below meth c Q C htab hR
  refine q_iload_n C dL_refused_0 rfl 1 rfl ?_
  refine q_if_ne C 13 dL_refused_1 (by decide) (fun _ => ?_) (fun c_1 => absurd c_1 (by decide))
  refine q_iload_n C dL_refused_13 rfl 1 rfl ?_
  refine q_iconst C (nI 1) dL_refused_14 (by decide) ?_
  refine q_icmp_neN C 29 dL_refused_15 (by decide) (by omega) (by omega) (fun _ => ?_) (fun c_15 => absurd c_15 (by omega))
  refine q_iload_n C dL_refused_29 rfl 1 rfl ?_
  refine q_iconst C (nI 2) dL_refused_30 (by decide) ?_
  refine q_icmp_neN C 42 dL_refused_31 (by decide) (by omega) (by omega) (fun _ => ?_) (fun c_31 => absurd c_31 (by omega))
  refine q_iload_n C dL_refused_42 rfl 1 rfl ?_
  refine q_iconst C (nI 3) dL_refused_43 (by decide) ?_
  refine q_icmp_neN C 55 dL_refused_44 (by decide) (by omega) (by omega) (fun _ => ?_) (fun c_44 => absurd c_44 (by omega))
  refine q_iload_n C dL_refused_55 rfl 1 rfl ?_
  refine q_iconst C (nI 4) dL_refused_56 (by decide) ?_
  refine q_icmp_neN C 68 dL_refused_57 (by decide) (by omega) (by omega) (fun _ => ?_) (fun c_57 => absurd c_57 (by omega))
  refine q_aload_n C dL_refused_68 rfl 0 rfl ?_
  refine q_iload_n C dL_refused_69 rfl 2 rfl ?_
  refine q_iload_n C dL_refused_70 rfl 3 rfl ?_
  refine q_iload C dL_refused_71 4 rfl ?_
  refine q_xcallVi C (As := [.int x, .int y, .int z]) (rest := []) (k := 0) (by omega) q_enBP rfl rfl (kX2_bead l σ V G hlf hd x y z) 3 gL_refused_X2_bead rfl rfl rfl (by decide +kernel) ⟨Nat.le_of_ble_eq_true rfl, Nat.le_of_ble_eq_true rfl⟩ dL_refused_73 rfl (Nat.le_of_ble_eq_true rfl) ⟨Nat.le_of_ble_eq_true rfl, Nat.le_of_ble_eq_true rfl⟩ (fun E_73 V_1 G_2 hx_73 => ?_) (fun r_73 V_1 G_2 hq_73 => ?_)
  · skip
    have hcd := q_xc1 hx_73.1
    obtain ⟨hcd, rfl⟩ := hcd
    refine q_catch C htab [] 0 78 79 57 "java/lang/IndexOutOfBoundsException" [(0, 78, 83, 59), (0, 78, 87, 61)] rfl (by decide +kernel) (by decide) (by decide) (by decide) (by decide +kernel) (by decide +kernel) (fun q9 => ?_)
    refine q_astore C [(5, .ref q9), (0, .ref (σ.2.1 0)), (1, .int (nI 5)), (2, .int x), (3, .int y), (4, .int z)] dL_refused_79 (by decide) rfl ?_
    refine q_iconst C (nI 1) dL_refused_81 (by decide) ?_
    refine hR _ _ _ _ _ _ _ ?_ rfl (Nat.le_of_ble_eq_true rfl) (Nat.le_of_ble_eq_true rfl) dL_refused_82
    exact ⟨rfl, hx_73.2.1, hx_73.2.2⟩
  exact absurd (hc.symm.trans hq_73.1) (by decide)
