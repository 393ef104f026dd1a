theorem q_rng {x : Int32} {lo hi : Nat} (hh : hi < 1000) (h0 : 1 ≤ lo ∧ lo < 1000) (h1 : ¬ x < nI lo) (h2 : ¬ nI hi < x) : ∃ w, lo ≤ w ∧ w ≤ hi ∧ x = nI w := by
  have h3 : ¬ x < nI 0 := fun z => h1 (Int32.lt_trans z ((nI_ltI (by omega) (by omega)).mpr (by omega)))
  obtain ⟨w, hw, rfl⟩ := (q_in_ok hh).mp ⟨h3, h2⟩
  exact ⟨w, Nat.le_of_not_lt fun z => h1 ((nI_ltI (by omega) (by omega)).mpr z), by omega, rfl⟩
/-- the grids of two memories are alike -/
def q_ag (V U : q_V) : Prop := ∀ i j, 27 ≤ i → U i j = V i j
theorem q_gok_ag {V U : q_V} (h : q_ag V U) {i w k : Nat} (hg : q_gok V i w k) : q_gok U i w k := by
  unfold q_gok
  rw [h (27 + i) 1 (by omega), h (27 + i) 2 (by omega)]
  exact hg
theorem q_gw_ag {V U : q_V} (h : q_ag V U) (i : Nat) : q_gw U i = q_gw V i := by unfold q_gw; rw [h (27 + i) 1 (by omega)]
theorem q_gh_ag {V U : q_V} (h : q_ag V U) (i : Nat) : q_gh U i = q_gh V i := by unfold q_gh; rw [h (27 + i) 2 (by omega)]
theorem q_cpats_ag {V U : q_V} (h : q_ag V U) {n : Nat} (hp : q_cpats V n) : q_cpats U n := fun pa hpa => by
  rw [q_gw_ag h, q_gh_ag h]
  exact q_gok_ag h (hp pa hpa)
theorem q_corg_ag {V U : q_V} (h : q_ag V U) {n o : Nat} (hc : q_corg U n o) : q_corg V n o := by
  have e : ∀ o k, q_calk U n o k = q_calk V n o k := fun o k => by
    unfold q_calk q_alike
    rw [q_gw_ag h, q_gh_ag h, q_gw_ag h, q_gh_ag h]
    have h48 : ∀ i j, U (48 + i) j = V (48 + i) j := fun i j => h _ _ (by omega)
    simp only [h48]
  simp only [q_corg, e] at hc ⊢
  exact hc
theorem q_cneeds_ag {V U : q_V} (h : q_ag V U) (pa : Nat) (y : Int32) : q_ct (fun k => U (48 + (1 + pa)) k = y) (q_gw V (1 + pa) * q_gh V (1 + pa)) = q_cneeds V pa y := by
  unfold q_cneeds
  rw [show (fun k => U (48 + (1 + pa)) k = y) = (fun k => V (48 + (1 + pa)) k = y) from funext fun k => by rw [h _ _ (by omega)]]
theorem q_ag_rfl (V : q_V) : q_ag V V := fun _ _ _ => rfl
theorem q_ag_up {V U : q_V} (h : q_ag V U) {k j : Nat} {x : Int32} (hk : k < 27) : q_ag V (q_up U k j x) := fun a b ha => by
  rw [q_up_off U x (by omega)]
  exact h a b ha
theorem q_ag_subr (V : q_V) {a : Nat} (ha : a < 7) (f : Nat → Int32) (n : Nat) : q_ag V (q_subr V a f n) := fun i j hi => if_neg (by omega)
theorem q_ag_addr (V : q_V) {a : Nat} (ha : a < 7) (f : Nat → Int32) (n : Nat) : q_ag V (q_addr V a f n) := fun i j hi => if_neg (by omega)
abbrev rX2_bring : Room := { frames := 7, cells := 6, slots := 36, locals := 112 }
theorem iX2_bring_X2 : ∀ w ∈ u_ws RX2 TX2 15, w ∈ wsX2_bring := by decide +kernel
set_option maxHeartbeats 4000000 in
set_option maxRecDepth 100000 in
/-- bring -/
theorem kX2_bring (l : Launch) (σ : q_E) (V : q_V) (G : q_G) (hlf : l.stackTraces = false)  (x y z : Int32) : q_Xi l yX2_bring wsX2_bring rX2_bring σ [.ref (σ.2.1 0), .int x, .int y, .int z] V G (fun r V' G' => (q_c3 (q_ok 7 x ∧ q_ok 8 y) (¬ z < nI 1 ∧ ¬ nI 1000 < z) (V (20 + q_n x) (q_n y) + z ≤ nI 100000)) = 0 ∧ (V (20 + q_n x) (q_n y) + z) = r ∧ (q_up (q_up V (20 + q_n x) (q_n y) (V (20 + q_n x) (q_n y) + z)) 3 (q_n y) (V 3 (q_n y) + z)) = V' ∧ G = G') ((fun E V' G' => q_xc [xI, xA, xS] (q_c3 (q_ok 7 x ∧ q_ok 8 y) (¬ z < nI 1 ∧ ¬ nI 1000 < z) (V (20 + q_n x) (q_n y) + z ≤ nI 100000)) E ∧ V = V' ∧ G = G')) 6 36 := by
  refine q_Xi_of (cc := cX2_bring) (maxL := 5) (lv := [(0, .ref (σ.2.1 0)), (1, .int x), (2, .int y), (3, .int z)]) (by decide +kernel) rfl (Nat.le_of_ble_eq_true rfl) rfl ?_
  intro p e s m args below meth c Q C hR hO T
  refine q_iload_n C dX2_bring_0 rfl 1 rfl ?_
  refine q_xcallSv C (As := [.int x]) (rest := []) (kX2_checkPerson l σ V G hlf x) 1 gX2_bring_X2_checkPerson rfl rfl rfl (by decide +kernel) ⟨Nat.le_of_ble_eq_true rfl, Nat.le_of_ble_eq_true rfl⟩ dX2_bring_1 rfl (Nat.le_of_ble_eq_true rfl) ⟨Nat.le_of_ble_eq_true rfl, Nat.le_of_ble_eq_true rfl⟩ (fun E_1 V_1 G_2 hx_1 => ?_) (fun V_1 G_2 hq_1 => ?_)
  · skip
    obtain ⟨rfl, n_1, rfl, rfl⟩ := hx_1
    refine hO _ _ _ _ _ _ _ _ ?_ (Nat.le_of_ble_eq_true rfl) (Nat.le_of_ble_eq_true rfl)
    first | exact ⟨q_xc_i (q_c3_1 (fun q => n_1 q.1)) rfl, rfl, rfl⟩
  obtain ⟨p_1, rfl, rfl⟩ := hq_1
  obtain ⟨a, ha, rfl⟩ := p_1
  refine q_iload_n C dX2_bring_4 rfl 2 rfl ?_
  refine q_xcallSv C (As := [.int y]) (rest := []) (kX2_checkColour l σ V G hlf y) 1 gX2_bring_X2_checkColour rfl rfl rfl (by decide +kernel) ⟨Nat.le_of_ble_eq_true rfl, Nat.le_of_ble_eq_true rfl⟩ dX2_bring_5 rfl (Nat.le_of_ble_eq_true rfl) ⟨Nat.le_of_ble_eq_true rfl, Nat.le_of_ble_eq_true rfl⟩ (fun E_5 V_3 G_4 hx_5 => ?_) (fun V_3 G_4 hq_5 => ?_)
  · skip
    obtain ⟨rfl, n_5, rfl, rfl⟩ := hx_5
    refine hO _ _ _ _ _ _ _ _ ?_ (Nat.le_of_ble_eq_true rfl) (Nat.le_of_ble_eq_true rfl)
    first | exact ⟨q_xc_i (q_c3_1 (fun q => n_5 q.2)) rfl, rfl, rfl⟩
  obtain ⟨p_5, rfl, rfl⟩ := hq_5
  obtain ⟨cc, hcc, rfl⟩ := p_5
  refine q_iload_n C dX2_bring_8 rfl 3 rfl ?_
  refine q_iconst C (nI 1) dX2_bring_9 (by decide) ?_
  refine q_sipush C (nI 1000) dX2_bring_10 (by decide) ?_
  refine q_xcallSv C (As := [.int z, .int (nI 1), .int (nI 1000)]) (rest := []) (kX2_checkRange l σ V G hlf z (nI 1) (nI 1000)) 3 gX2_bring_X2_checkRange rfl rfl rfl (by decide +kernel) ⟨Nat.le_of_ble_eq_true rfl, Nat.le_of_ble_eq_true rfl⟩ dX2_bring_13 rfl (Nat.le_of_ble_eq_true rfl) ⟨Nat.le_of_ble_eq_true rfl, Nat.le_of_ble_eq_true rfl⟩ (fun E_13 V_5 G_6 hx_13 => ?_) (fun V_5 G_6 hq_13 => ?_)
  · skip
    obtain ⟨rfl, n_13, rfl, rfl⟩ := hx_13
    refine hO _ _ _ _ _ _ _ _ ?_ (Nat.le_of_ble_eq_true rfl) (Nat.le_of_ble_eq_true rfl)
    first | exact ⟨q_xc_i (q_c3_2 ⟨q_ok_nI ha, q_ok_nI hcc⟩ n_13) rfl, rfl, rfl⟩
  obtain ⟨p_13, rfl, rfl⟩ := hq_13
  refine q_aload_n C dX2_bring_16 rfl 0 rfl ?_
  refine q_get C (k := 0) (fi := 0) (.ref (σ.2.1 1)) (by omega) q_enBP rfl iX2_bring_X2 (by decide) (by decide +kernel) rfl rfl dX2_bring_17 ?_
  refine q_iload_n C dX2_bring_20 rfl 1 rfl ?_
  refine q_aaldH C (by omega) dX2_bring_21 ?_
  refine q_iload_n C dX2_bring_22 rfl 2 rfl ?_
  refine q_ialdN C (k := 20 + a) (q_isI_hand (by omega)) (by omega) (by decide) dX2_bring_23 ?_
  refine q_iload_n C dX2_bring_24 rfl 3 rfl ?_
  refine q_iadd C dX2_bring_25 ?_
  refine q_istore C [(4, .int ((V (20 + a) cc) + z)), (0, .ref (σ.2.1 0)), (1, .int (nI a)), (2, .int (nI cc)), (3, .int z)] dX2_bring_26 (by decide) rfl ?_
  refine q_iload C dX2_bring_28 0 rfl ?_
  refine q_ldc C (nI 100000) dX2_bring_30 (by decide +kernel) ?_
  refine q_icmp_le C 45 dX2_bring_32 (by decide) (fun c_32 => ?_) (fun c_32 => ?_)
  · skip
    refine q_aload_n C dX2_bring_45 rfl 1 rfl ?_
    refine q_get C (k := 0) (fi := 0) (.ref (σ.2.1 1)) (by omega) q_enBP rfl iX2_bring_X2 (by decide) (by decide +kernel) rfl rfl dX2_bring_46 ?_
    refine q_iload_n C dX2_bring_49 rfl 2 rfl ?_
    refine q_aaldH C (by omega) dX2_bring_50 ?_
    refine q_iload_n C dX2_bring_51 rfl 3 rfl ?_
    refine q_iload C dX2_bring_52 0 rfl ?_
    refine q_iastN C (k := 20 + a) (q_isI_hand (by omega)) (by omega) (by decide) dX2_bring_54 ?_
    refine q_aload_n C dX2_bring_55 rfl 1 rfl ?_
    refine q_get C (k := 0) (fi := 2) (.ref (σ.2.1 3)) (by omega) q_enBP rfl iX2_bring_X2 (by decide) (by decide +kernel) rfl rfl dX2_bring_56 ?_
    refine q_iload_n C dX2_bring_59 rfl 3 rfl ?_
    refine q_dup2 C dX2_bring_60 rfl rfl ?_
    refine q_ialdN C (k := 3) (n := 8) ⟨by decide, by decide, by decide⟩ (by omega) (by decide) dX2_bring_61 ?_
    refine q_stk (st' := [.int (V 3 cc), .int (nI cc), .ref (σ.2.1 3)]) (congrArg (fun z => Value.int z :: [.int (nI cc), .ref (σ.2.1 3)]) (q_up_ne _ _ (by omega))) ?_
    refine q_iload_n C dX2_bring_62 rfl 4 rfl ?_
    refine q_iadd C dX2_bring_63 ?_
    refine q_iastN C (k := 3) (n := 8) ⟨by decide, by decide, by decide⟩ (by omega) (by decide) dX2_bring_64 ?_
    refine q_iload C dX2_bring_65 0 rfl ?_
    refine hR _ _ _ _ _ _ _ ?_ rfl (Nat.le_of_ble_eq_true rfl) (Nat.le_of_ble_eq_true rfl) dX2_bring_67
    rw [q_n_nI (n := a) (by omega), q_n_nI (n := cc) (by omega)]
    exact ⟨q_c3_0 ⟨q_ok_nI ha, q_ok_nI hcc⟩ p_13 c_32, rfl, rfl, rfl⟩
  · skip
    refine q_throw C "java/lang/IllegalStateException" "too many beads in the hand" T hlf rfl (by decide +kernel) (by decide +kernel) (by decide +kernel) (by decide +kernel) (by decide +kernel) (by decide +kernel) dX2_bring_35 dX2_bring_38 dX2_bring_39 dX2_bring_41 dX2_bring_44 (Nat.le_of_ble_eq_true rfl) (Nat.le_of_ble_eq_true rfl) (Nat.le_of_ble_eq_true rfl) (Nat.le_of_ble_eq_true rfl) (Nat.le_of_ble_eq_true rfl) (Nat.le_of_ble_eq_true rfl) ?_
    rw [q_n_nI (n := a) (by omega), q_n_nI (n := cc) (by omega)]
    first | exact ⟨q_xc_i (q_c3_3 ⟨q_ok_nI ha, q_ok_nI hcc⟩ p_13 c_32) rfl, rfl, rfl⟩
abbrev rX2_lay : Room := { frames := 7, cells := 6, slots := 36, locals := 112 }
theorem iX2_lay_X2 : ∀ w ∈ u_ws RX2 TX2 15, w ∈ wsX2_lay := by decide +kernel
set_option maxHeartbeats 4000000 in
set_option maxRecDepth 100000 in
/-- lay -/
theorem kX2_lay (l : Launch) (σ : q_E) (V : q_V) (G : q_G) (hlf : l.stackTraces = false)  (x y z : Int32) : q_Xi l yX2_lay wsX2_lay rX2_lay σ [.ref (σ.2.1 0), .int x, .int y, .int z] V G (fun r V' G' => (q_c3 (q_ok 7 x ∧ q_ok 8 y) (¬ z < -1000 ∧ ¬ nI 1000 < z) (¬ V (20 + q_n x) (q_n y) - z < 0 ∧ ¬ nI 100000 < V (20 + q_n x) (q_n y) - z ∧ 0 ≤ V 2 (q_n y) + z)) = 0 ∧ (V 2 (q_n y) + z) = r ∧ (q_up (q_up V (20 + q_n x) (q_n y) (V (20 + q_n x) (q_n y) - z)) 2 (q_n y) (V 2 (q_n y) + z)) = V' ∧ G = G') ((fun E V' G' => q_xc [xI, xA, xS] (q_c3 (q_ok 7 x ∧ q_ok 8 y) (¬ z < -1000 ∧ ¬ nI 1000 < z) (¬ V (20 + q_n x) (q_n y) - z < 0 ∧ ¬ nI 100000 < V (20 + q_n x) (q_n y) - z ∧ 0 ≤ V 2 (q_n y) + z)) E ∧ V = V' ∧ G = G')) 6 36 := by
  refine q_Xi_of (cc := cX2_lay) (maxL := 6) (lv := [(0, .ref (σ.2.1 0)), (1, .int x), (2, .int y), (3, .int z)]) (by decide +kernel) rfl (Nat.le_of_ble_eq_true rfl) rfl ?_
  intro p e s m args below meth c Q C hR hO T
  refine q_iload_n C dX2_lay_0 rfl 1 rfl ?_
  refine q_xcallSv C (As := [.int x]) (rest := []) (kX2_checkPerson l σ V G hlf x) 1 gX2_lay_X2_checkPerson rfl rfl rfl (by decide +kernel) ⟨Nat.le_of_ble_eq_true rfl, Nat.le_of_ble_eq_true rfl⟩ dX2_lay_1 rfl (Nat.le_of_ble_eq_true rfl) ⟨Nat.le_of_ble_eq_true rfl, Nat.le_of_ble_eq_true rfl⟩ (fun E_1 V_1 G_2 hx_1 => ?_) (fun V_1 G_2 hq_1 => ?_)
  · skip
    obtain ⟨rfl, n_1, rfl, rfl⟩ := hx_1
    refine hO _ _ _ _ _ _ _ _ ?_ (Nat.le_of_ble_eq_true rfl) (Nat.le_of_ble_eq_true rfl)
    first | exact ⟨q_xc_i (q_c3_1 (fun q => n_1 q.1)) rfl, rfl, rfl⟩
  obtain ⟨p_1, rfl, rfl⟩ := hq_1
  obtain ⟨a, ha, rfl⟩ := p_1
  refine q_iload_n C dX2_lay_4 rfl 2 rfl ?_
  refine q_xcallSv C (As := [.int y]) (rest := []) (kX2_checkColour l σ V G hlf y) 1 gX2_lay_X2_checkColour rfl rfl rfl (by decide +kernel) ⟨Nat.le_of_ble_eq_true rfl, Nat.le_of_ble_eq_true rfl⟩ dX2_lay_5 rfl (Nat.le_of_ble_eq_true rfl) ⟨Nat.le_of_ble_eq_true rfl, Nat.le_of_ble_eq_true rfl⟩ (fun E_5 V_3 G_4 hx_5 => ?_) (fun V_3 G_4 hq_5 => ?_)
  · skip
    obtain ⟨rfl, n_5, rfl, rfl⟩ := hx_5
    refine hO _ _ _ _ _ _ _ _ ?_ (Nat.le_of_ble_eq_true rfl) (Nat.le_of_ble_eq_true rfl)
    first | exact ⟨q_xc_i (q_c3_1 (fun q => n_5 q.2)) rfl, rfl, rfl⟩
  obtain ⟨p_5, rfl, rfl⟩ := hq_5
  obtain ⟨cc, hcc, rfl⟩ := p_5
  refine q_iload_n C dX2_lay_8 rfl 3 rfl ?_
  refine q_sipush C ((-1000)) dX2_lay_9 (by decide) ?_
  refine q_sipush C (nI 1000) dX2_lay_12 (by decide) ?_
  refine q_xcallSv C (As := [.int z, .int ((-1000)), .int (nI 1000)]) (rest := []) (kX2_checkRange l σ V G hlf z ((-1000)) (nI 1000)) 3 gX2_lay_X2_checkRange rfl rfl rfl (by decide +kernel) ⟨Nat.le_of_ble_eq_true rfl, Nat.le_of_ble_eq_true rfl⟩ dX2_lay_15 rfl (Nat.le_of_ble_eq_true rfl) ⟨Nat.le_of_ble_eq_true rfl, Nat.le_of_ble_eq_true rfl⟩ (fun E_15 V_5 G_6 hx_15 => ?_) (fun V_5 G_6 hq_15 => ?_)
  · skip
    obtain ⟨rfl, n_15, rfl, rfl⟩ := hx_15
    refine hO _ _ _ _ _ _ _ _ ?_ (Nat.le_of_ble_eq_true rfl) (Nat.le_of_ble_eq_true rfl)
    first | exact ⟨q_xc_i (q_c3_2 ⟨q_ok_nI ha, q_ok_nI hcc⟩ n_15) rfl, rfl, rfl⟩
  obtain ⟨p_15, rfl, rfl⟩ := hq_15
  refine q_aload_n C dX2_lay_18 rfl 0 rfl ?_
  refine q_get C (k := 0) (fi := 0) (.ref (σ.2.1 1)) (by omega) q_enBP rfl iX2_lay_X2 (by decide) (by decide +kernel) rfl rfl dX2_lay_19 ?_
  refine q_iload_n C dX2_lay_22 rfl 1 rfl ?_
  refine q_aaldH C (by omega) dX2_lay_23 ?_
  refine q_iload_n C dX2_lay_24 rfl 2 rfl ?_
  refine q_ialdN C (k := 20 + a) (q_isI_hand (by omega)) (by omega) (by decide) dX2_lay_25 ?_
  refine q_iload_n C dX2_lay_26 rfl 3 rfl ?_
  refine q_isub C dX2_lay_27 ?_
  refine q_istore C [(4, .int ((V (20 + a) cc) - z)), (0, .ref (σ.2.1 0)), (1, .int (nI a)), (2, .int (nI cc)), (3, .int z)] dX2_lay_28 (by decide) rfl ?_
  refine q_aload_n C dX2_lay_30 rfl 1 rfl ?_
  refine q_get C (k := 0) (fi := 1) (.ref (σ.2.1 2)) (by omega) q_enBP rfl iX2_lay_X2 (by decide) (by decide +kernel) rfl rfl dX2_lay_31 ?_
  refine q_iload_n C dX2_lay_34 rfl 3 rfl ?_
  refine q_ialdN C (k := 2) (n := 8) ⟨by decide, by decide, by decide⟩ (by omega) (by decide) dX2_lay_35 ?_
  refine q_iload_n C dX2_lay_36 rfl 4 rfl ?_
  refine q_iadd C dX2_lay_37 ?_
  refine q_istore C [(5, .int ((V 2 cc) + z)), (4, .int ((V (20 + a) cc) - z)), (0, .ref (σ.2.1 0)), (1, .int (nI a)), (2, .int (nI cc)), (3, .int z)] dX2_lay_38 (by decide) rfl ?_
  refine q_iload C dX2_lay_40 1 rfl ?_
  refine q_if_lt C 50 dX2_lay_42 (by decide) (fun c_42 => ?_) (fun c_42 => ?_)
  · skip
    refine q_throw C "java/lang/IllegalStateException" "too few beads" T hlf rfl (by decide +kernel) (by decide +kernel) (by decide +kernel) (by decide +kernel) (by decide +kernel) (by decide +kernel) dX2_lay_50 dX2_lay_53 dX2_lay_54 dX2_lay_56 dX2_lay_59 (Nat.le_of_ble_eq_true rfl) (Nat.le_of_ble_eq_true rfl) (Nat.le_of_ble_eq_true rfl) (Nat.le_of_ble_eq_true rfl) (Nat.le_of_ble_eq_true rfl) (Nat.le_of_ble_eq_true rfl) ?_
    rw [q_n_nI (n := a) (by omega), q_n_nI (n := cc) (by omega)]
    first | exact ⟨q_xc_i (q_c3_3 ⟨q_ok_nI ha, q_ok_nI hcc⟩ p_15 (fun q => q.1 c_42)) rfl, rfl, rfl⟩ | exact ⟨q_xc_i (q_c3_3 ⟨q_ok_nI ha, q_ok_nI hcc⟩ p_15 (fun q => c_47 q.2.2)) rfl, rfl, rfl⟩
  · skip
    refine q_iload C dX2_lay_45 0 rfl ?_
    refine q_if_ge C 60 dX2_lay_47 (by decide) (fun c_47 => ?_) (fun c_47 => ?_)
    · skip
      refine q_iload C dX2_lay_60 1 rfl ?_
      refine q_ldc C (nI 100000) dX2_lay_62 (by decide +kernel) ?_
      refine q_icmp_le C 77 dX2_lay_64 (by decide) (fun c_64 => ?_) (fun c_64 => ?_)
      · skip
        refine q_aload_n C dX2_lay_77 rfl 2 rfl ?_
        refine q_get C (k := 0) (fi := 0) (.ref (σ.2.1 1)) (by omega) q_enBP rfl iX2_lay_X2 (by decide) (by decide +kernel) rfl rfl dX2_lay_78 ?_
        refine q_iload_n C dX2_lay_81 rfl 3 rfl ?_
        refine q_aaldH C (by omega) dX2_lay_82 ?_
        refine q_iload_n C dX2_lay_83 rfl 4 rfl ?_
        refine q_iload C dX2_lay_84 1 rfl ?_
        refine q_iastN C (k := 20 + a) (q_isI_hand (by omega)) (by omega) (by decide) dX2_lay_86 ?_
        refine q_aload_n C dX2_lay_87 rfl 2 rfl ?_
        refine q_get C (k := 0) (fi := 1) (.ref (σ.2.1 2)) (by omega) q_enBP rfl iX2_lay_X2 (by decide) (by decide +kernel) rfl rfl dX2_lay_88 ?_
        refine q_iload_n C dX2_lay_91 rfl 4 rfl ?_
        refine q_iload C dX2_lay_92 0 rfl ?_
        refine q_iastN C (k := 2) (n := 8) ⟨by decide, by decide, by decide⟩ (by omega) (by decide) dX2_lay_94 ?_
        refine q_iload C dX2_lay_95 0 rfl ?_
        refine hR _ _ _ _ _ _ _ ?_ rfl (Nat.le_of_ble_eq_true rfl) (Nat.le_of_ble_eq_true rfl) dX2_lay_97
        rw [q_n_nI (n := a) (by omega), q_n_nI (n := cc) (by omega)]
        exact ⟨q_c3_0 ⟨q_ok_nI ha, q_ok_nI hcc⟩ p_15 ⟨c_42, Int32.not_lt.mpr c_64, c_47⟩, rfl, rfl, rfl⟩
      · skip
        refine q_throw C "java/lang/IllegalStateException" "too many beads in the hand" T hlf rfl (by decide +kernel) (by decide +kernel) (by decide +kernel) (by decide +kernel) (by decide +kernel) (by decide +kernel) dX2_lay_67 dX2_lay_70 dX2_lay_71 dX2_lay_73 dX2_lay_76 (Nat.le_of_ble_eq_true rfl) (Nat.le_of_ble_eq_true rfl) (Nat.le_of_ble_eq_true rfl) (Nat.le_of_ble_eq_true rfl) (Nat.le_of_ble_eq_true rfl) (Nat.le_of_ble_eq_true rfl) ?_
        rw [q_n_nI (n := a) (by omega), q_n_nI (n := cc) (by omega)]
        first | exact ⟨q_xc_i (q_c3_3 ⟨q_ok_nI ha, q_ok_nI hcc⟩ p_15 (fun q => q.2.1 (Int32.not_le.mp c_64))) rfl, rfl, rfl⟩
    · skip
      refine q_throw C "java/lang/IllegalStateException" "too few beads" T hlf rfl (by decide +kernel) (by decide +kernel) (by decide +kernel) (by decide +kernel) (by decide +kernel) (by decide +kernel) dX2_lay_50 dX2_lay_53 dX2_lay_54 dX2_lay_56 dX2_lay_59 (Nat.le_of_ble_eq_true rfl) (Nat.le_of_ble_eq_true rfl) (Nat.le_of_ble_eq_true rfl) (Nat.le_of_ble_eq_true rfl) (Nat.le_of_ble_eq_true rfl) (Nat.le_of_ble_eq_true rfl) ?_
      rw [q_n_nI (n := a) (by omega), q_n_nI (n := cc) (by omega)]
      first | exact ⟨q_xc_i (q_c3_3 ⟨q_ok_nI ha, q_ok_nI hcc⟩ p_15 (fun q => q.1 c_42)) rfl, rfl, rfl⟩ | exact ⟨q_xc_i (q_c3_3 ⟨q_ok_nI ha, q_ok_nI hcc⟩ p_15 (fun q => c_47 q.2.2)) rfl, rfl, rfl⟩
abbrev rX2_hand : Room := { frames := 7, cells := 6, slots := 36, locals := 110 }
theorem iX2_hand_X2 : ∀ w ∈ u_ws RX2 TX2 15, w ∈ wsX2_hand := by decide +kernel
set_option maxHeartbeats 4000000 in
set_option maxRecDepth 100000 in
/-- hand -/
theorem kX2_hand (l : Launch) (σ : q_E) (V : q_V) (G : q_G) (hlf : l.stackTraces = false)  (x y : Int32) : q_Xi l yX2_hand wsX2_hand rX2_hand σ [.ref (σ.2.1 0), .int x, .int y] V G (fun r V' G' => (q_c1 (q_ok 7 x ∧ q_ok 8 y)) = 0 ∧ (V (20 + q_n x) (q_n y)) = r ∧ V = V' ∧ G = G') ((fun E V' G' => q_xc [xI] (q_c1 (q_ok 7 x ∧ q_ok 8 y)) E ∧ V = V' ∧ G = G')) 6 36 := by
  refine q_Xi_of (cc := cX2_hand) (maxL := 3) (lv := [(0, .ref (σ.2.1 0)), (1, .int x), (2, .int y)]) (by decide +kernel) rfl (Nat.le_of_ble_eq_true rfl) rfl ?_
  intro p e s m args below meth c Q C hR hO T
  refine q_iload_n C dX2_hand_0 rfl 1 rfl ?_
  refine q_xcallSv C (As := [.int x]) (rest := []) (kX2_checkPerson l σ V G hlf x) 1 gX2_hand_X2_checkPerson rfl rfl rfl (by decide +kernel) ⟨Nat.le_of_ble_eq_true rfl, Nat.le_of_ble_eq_true rfl⟩ dX2_hand_1 rfl (Nat.le_of_ble_eq_true rfl) ⟨Nat.le_of_ble_eq_true rfl, Nat.le_of_ble_eq_true rfl⟩ (fun E_1 V_1 G_2 hx_1 => ?_) (fun V_1 G_2 hq_1 => ?_)
  · skip
    obtain ⟨rfl, n_1, rfl, rfl⟩ := hx_1
    refine hO _ _ _ _ _ _ _ _ ?_ (Nat.le_of_ble_eq_true rfl) (Nat.le_of_ble_eq_true rfl)
    first | exact ⟨q_xc_i (q_c1_1 (fun q => n_1 q.1)) rfl, rfl, rfl⟩
  obtain ⟨p_1, rfl, rfl⟩ := hq_1
  obtain ⟨a, ha, rfl⟩ := p_1
  refine q_iload_n C dX2_hand_4 rfl 2 rfl ?_
  refine q_xcallSv C (As := [.int y]) (rest := []) (kX2_checkColour l σ V G hlf y) 1 gX2_hand_X2_checkColour rfl rfl rfl (by decide +kernel) ⟨Nat.le_of_ble_eq_true rfl, Nat.le_of_ble_eq_true rfl⟩ dX2_hand_5 rfl (Nat.le_of_ble_eq_true rfl) ⟨Nat.le_of_ble_eq_true rfl, Nat.le_of_ble_eq_true rfl⟩ (fun E_5 V_3 G_4 hx_5 => ?_) (fun V_3 G_4 hq_5 => ?_)
  · skip
    obtain ⟨rfl, n_5, rfl, rfl⟩ := hx_5
    refine hO _ _ _ _ _ _ _ _ ?_ (Nat.le_of_ble_eq_true rfl) (Nat.le_of_ble_eq_true rfl)
    first | exact ⟨q_xc_i (q_c1_1 (fun q => n_5 q.2)) rfl, rfl, rfl⟩
  obtain ⟨p_5, rfl, rfl⟩ := hq_5
  obtain ⟨cc, hcc, rfl⟩ := p_5
  refine q_aload_n C dX2_hand_8 rfl 0 rfl ?_
  refine q_get C (k := 0) (fi := 0) (.ref (σ.2.1 1)) (by omega) q_enBP rfl iX2_hand_X2 (by decide) (by decide +kernel) rfl rfl dX2_hand_9 ?_
  refine q_iload_n C dX2_hand_12 rfl 1 rfl ?_
  refine q_aaldH C (by omega) dX2_hand_13 ?_
  refine q_iload_n C dX2_hand_14 rfl 2 rfl ?_
  refine q_ialdN C (k := 20 + a) (q_isI_hand (by omega)) (by omega) (by decide) dX2_hand_15 ?_
  refine hR _ _ _ _ _ _ _ ?_ rfl (Nat.le_of_ble_eq_true rfl) (Nat.le_of_ble_eq_true rfl) dX2_hand_16
  rw [q_n_nI (n := a) (by omega), q_n_nI (n := cc) (by omega)]
  exact ⟨q_c1_0 ⟨q_ok_nI ha, q_ok_nI hcc⟩, rfl, rfl, rfl⟩
abbrev rX2_brought : Room := { frames := 7, cells := 6, slots := 36, locals := 110 }
theorem iX2_brought_X2 : ∀ w ∈ u_ws RX2 TX2 15, w ∈ wsX2_brought := by decide +kernel
set_option maxHeartbeats 4000000 in
set_option maxRecDepth 100000 in
/-- brought -/
theorem kX2_brought (l : Launch) (σ : q_E) (V : q_V) (G : q_G) (hlf : l.stackTraces = false)  (y : Int32) : q_Xi l yX2_brought wsX2_brought rX2_brought σ [.ref (σ.2.1 0), .int y] V G (fun r V' G' => (q_c1 (q_ok 8 y)) = 0 ∧ (V 3 (q_n y)) = r ∧ V = V' ∧ G = G') ((fun E V' G' => q_xc [xI] (q_c1 (q_ok 8 y)) E ∧ V = V' ∧ G = G')) 6 36 := by
  refine q_Xi_of (cc := cX2_brought) (maxL := 2) (lv := [(0, .ref (σ.2.1 0)), (1, .int y)]) (by decide +kernel) rfl (Nat.le_of_ble_eq_true rfl) rfl ?_
  intro p e s m args below meth c Q C hR hO T
  refine q_iload_n C dX2_brought_0 rfl 1 rfl ?_
  refine q_xcallSv C (As := [.int y]) (rest := []) (kX2_checkColour l σ V G hlf y) 1 gX2_brought_X2_checkColour rfl rfl rfl (by decide +kernel) ⟨Nat.le_of_ble_eq_true rfl, Nat.le_of_ble_eq_true rfl⟩ dX2_brought_1 rfl (Nat.le_of_ble_eq_true rfl) ⟨Nat.le_of_ble_eq_true rfl, Nat.le_of_ble_eq_true rfl⟩ (fun E_1 V_1 G_2 hx_1 => ?_) (fun V_1 G_2 hq_1 => ?_)
  · skip
    obtain ⟨rfl, n_1, rfl, rfl⟩ := hx_1
    refine hO _ _ _ _ _ _ _ _ ?_ (Nat.le_of_ble_eq_true rfl) (Nat.le_of_ble_eq_true rfl)
    first | exact ⟨q_xc_i (q_c1_1 n_1) rfl, rfl, rfl⟩
  obtain ⟨p_1, rfl, rfl⟩ := hq_1
  obtain ⟨cc, hcc, rfl⟩ := p_1
  refine q_aload_n C dX2_brought_4 rfl 0 rfl ?_
  refine q_get C (k := 0) (fi := 2) (.ref (σ.2.1 3)) (by omega) q_enBP rfl iX2_brought_X2 (by decide) (by decide +kernel) rfl rfl dX2_brought_5 ?_
  refine q_iload_n C dX2_brought_8 rfl 1 rfl ?_
  refine q_ialdN C (k := 3) (n := 8) ⟨by decide, by decide, by decide⟩ (by omega) (by decide) dX2_brought_9 ?_
  refine hR _ _ _ _ _ _ _ ?_ rfl (Nat.le_of_ble_eq_true rfl) (Nat.le_of_ble_eq_true rfl) dX2_brought_10
  rw [q_n_nI (n := cc) (by omega)]
  exact ⟨q_c1_0 (q_ok_nI hcc), rfl, rfl, rfl⟩
abbrev rX2_credits : Room := { frames := 7, cells := 6, slots := 36, locals := 110 }
theorem iX2_credits_X2 : ∀ w ∈ u_ws RX2 TX2 15, w ∈ wsX2_credits := by decide +kernel
set_option maxHeartbeats 4000000 in
set_option maxRecDepth 100000 in
/-- credits -/
theorem kX2_credits (l : Launch) (σ : q_E) (V : q_V) (G : q_G) (hlf : l.stackTraces = false)  (x : Int32) : q_Xi l yX2_credits wsX2_credits rX2_credits σ [.ref (σ.2.1 0), .int x] V G (fun r V' G' => (q_c1 (q_ok 7 x)) = 0 ∧ (V 8 (q_n x)) = r ∧ V = V' ∧ G = G') ((fun E V' G' => q_xc [xI] (q_c1 (q_ok 7 x)) E ∧ V = V' ∧ G = G')) 6 36 := by
  refine q_Xi_of (cc := cX2_credits) (maxL := 2) (lv := [(0, .ref (σ.2.1 0)), (1, .int x)]) (by decide +kernel) rfl (Nat.le_of_ble_eq_true rfl) rfl ?_
  intro p e s m args below meth c Q C hR hO T
  refine q_iload_n C dX2_credits_0 rfl 1 rfl ?_
  refine q_xcallSv C (As := [.int x]) (rest := []) (kX2_checkPerson l σ V G hlf x) 1 gX2_credits_X2_checkPerson rfl rfl rfl (by decide +kernel) ⟨Nat.le_of_ble_eq_true rfl, Nat.le_of_ble_eq_true rfl⟩ dX2_credits_1 rfl (Nat.le_of_ble_eq_true rfl) ⟨Nat.le_of_ble_eq_true rfl, Nat.le_of_ble_eq_true rfl⟩ (fun E_1 V_1 G_2 hx_1 => ?_) (fun V_1 G_2 hq_1 => ?_)
  · skip
    obtain ⟨rfl, n_1, rfl, rfl⟩ := hx_1
    refine hO _ _ _ _ _ _ _ _ ?_ (Nat.le_of_ble_eq_true rfl) (Nat.le_of_ble_eq_true rfl)
    first | exact ⟨q_xc_i (q_c1_1 n_1) rfl, rfl, rfl⟩
  obtain ⟨p_1, rfl, rfl⟩ := hq_1
  obtain ⟨a, ha, rfl⟩ := p_1
  refine q_aload_n C dX2_credits_4 rfl 0 rfl ?_
  refine q_get C (k := 0) (fi := 9) (.ref (σ.2.1 8)) (by omega) q_enBP rfl iX2_credits_X2 (by decide) (by decide +kernel) rfl rfl dX2_credits_5 ?_
  refine q_iload_n C dX2_credits_8 rfl 1 rfl ?_
  refine q_ialdN C (k := 8) (n := 7) ⟨by decide, by decide, by decide⟩ (by omega) (by decide) dX2_credits_9 ?_
  refine hR _ _ _ _ _ _ _ ?_ rfl (Nat.le_of_ble_eq_true rfl) (Nat.le_of_ble_eq_true rfl) dX2_credits_10
  rw [q_n_nI (n := a) (by omega)]
  exact ⟨q_c1_0 (q_ok_nI ha), rfl, rfl, rfl⟩
abbrev rX2_draft : Room := { frames := 7, cells := 6, slots := 36, locals := 112 }
theorem iX2_draft_X2 : ∀ w ∈ u_ws RX2 TX2 15, w ∈ wsX2_draft := by decide +kernel
set_option maxHeartbeats 4000000 in
set_option maxRecDepth 100000 in
/-- draft -/
theorem kX2_draft (l : Launch) (σ : q_E) (V : q_V) (G : q_G) (hlf : l.stackTraces = false)  (x y : Int32) : q_Xi l yX2_draft wsX2_draft rX2_draft σ [.ref (σ.2.1 0), .int x, .int y] V G (fun r V' G' => (q_c1 ((¬ x < nI 1 ∧ ¬ nI 8 < x) ∧ (¬ y < nI 1 ∧ ¬ nI 6 < y))) = 0 ∧ (x * y) = r ∧ (q_fill (q_up (q_up V (27 + 0) 1 x) (27 + 0) 2 y) (48 + 0) 0 48) = V' ∧ G = G') ((fun E V' G' => q_xc [xA] (q_c1 ((¬ x < nI 1 ∧ ¬ nI 8 < x) ∧ (¬ y < nI 1 ∧ ¬ nI 6 < y))) E ∧ V = V' ∧ G = G')) 6 36 := by
  refine q_Xi_of (cc := cX2_draft) (maxL := 3) (lv := [(0, .ref (σ.2.1 0)), (1, .int x), (2, .int y)]) (by decide +kernel) rfl (Nat.le_of_ble_eq_true rfl) rfl ?_
  intro p e s m args below meth c Q C hR hO T
  refine q_iload_n C dX2_draft_0 rfl 1 rfl ?_
  refine q_iconst C (nI 1) dX2_draft_1 (by decide) ?_
  refine q_bipush C (nI 8) dX2_draft_2 (by decide) ?_
  refine q_xcallSv C (As := [.int x, .int (nI 1), .int (nI 8)]) (rest := []) (kX2_checkRange l σ V G hlf x (nI 1) (nI 8)) 3 gX2_draft_X2_checkRange rfl rfl rfl (by decide +kernel) ⟨Nat.le_of_ble_eq_true rfl, Nat.le_of_ble_eq_true rfl⟩ dX2_draft_4 rfl (Nat.le_of_ble_eq_true rfl) ⟨Nat.le_of_ble_eq_true rfl, Nat.le_of_ble_eq_true rfl⟩ (fun E_4 V_1 G_2 hx_4 => ?_) (fun V_1 G_2 hq_4 => ?_)
  · skip
    obtain ⟨rfl, n_4, rfl, rfl⟩ := hx_4
    refine hO _ _ _ _ _ _ _ _ ?_ (Nat.le_of_ble_eq_true rfl) (Nat.le_of_ble_eq_true rfl)
    first | exact ⟨q_xc_i (q_c1_1 (fun q => n_4 q.1)) rfl, rfl, rfl⟩
  obtain ⟨p_4, rfl, rfl⟩ := hq_4
  refine q_iload_n C dX2_draft_7 rfl 2 rfl ?_
  refine q_iconst C (nI 1) dX2_draft_8 (by decide) ?_
  refine q_bipush C (nI 6) dX2_draft_9 (by decide) ?_
  refine q_xcallSv C (As := [.int y, .int (nI 1), .int (nI 6)]) (rest := []) (kX2_checkRange l σ V G hlf y (nI 1) (nI 6)) 3 gX2_draft_X2_checkRange rfl rfl rfl (by decide +kernel) ⟨Nat.le_of_ble_eq_true rfl, Nat.le_of_ble_eq_true rfl⟩ dX2_draft_11 rfl (Nat.le_of_ble_eq_true rfl) ⟨Nat.le_of_ble_eq_true rfl, Nat.le_of_ble_eq_true rfl⟩ (fun E_11 V_3 G_4 hx_11 => ?_) (fun V_3 G_4 hq_11 => ?_)
  · skip
    obtain ⟨rfl, n_11, rfl, rfl⟩ := hx_11
    refine hO _ _ _ _ _ _ _ _ ?_ (Nat.le_of_ble_eq_true rfl) (Nat.le_of_ble_eq_true rfl)
    first | exact ⟨q_xc_i (q_c1_1 (fun q => n_11 q.2)) rfl, rfl, rfl⟩
  obtain ⟨p_11, rfl, rfl⟩ := hq_11
  refine q_aload_n C dX2_draft_14 rfl 0 rfl ?_
  refine q_get C (k := 0) (fi := 3) (.ref (σ.2.1 (27 + 0))) (by omega) q_enBP rfl iX2_draft_X2 (by decide) (by decide +kernel) rfl rfl dX2_draft_15 ?_
  refine q_iload_n C dX2_draft_18 rfl 1 rfl ?_
  refine q_iload_n C dX2_draft_19 rfl 2 rfl ?_
  refine q_callNv C (As := [.int x, .int y]) (rest := []) (k := 27 + 0) (q_isG (by omega)).1 (q_enG (by omega)) rfl rfl (kX1_begin l σ V G (i := 0) (by decide) x y) 2 (host := RX2) gX2_draft_X1_begin_n96 rfl rfl rfl (by decide +kernel) (by decide +kernel) (by decide +kernel) (by decide +kernel) (by decide +kernel) ⟨Nat.le_of_ble_eq_true rfl, Nat.le_of_ble_eq_true rfl⟩ dX2_draft_20 rfl (Nat.le_of_ble_eq_true rfl) ⟨Nat.le_of_ble_eq_true rfl, Nat.le_of_ble_eq_true rfl⟩ (fun V_5 G_6 hq_20 => ?_)
  obtain ⟨rfl, rfl⟩ := hq_20
  obtain ⟨w9, hw1, hw8, hwe⟩ := q_rng (by decide) (by decide) p_4.1 p_4.2
  obtain ⟨h9, hh1, hh6, hhe⟩ := q_rng (by decide) (by decide) p_11.1 p_11.2
  have e1 : q_fill (q_up (q_up V (27 + 0) 1 x) (27 + 0) 2 y) (48 + 0) 0 48 (27 + 0) 1 = nI w9 := hwe
  have e2 : q_fill (q_up (q_up V (27 + 0) 1 x) (27 + 0) 2 y) (48 + 0) 0 48 (27 + 0) 2 = nI h9 := hhe
  refine q_aload_n C dX2_draft_23 rfl 0 rfl ?_
  refine q_get C (k := 0) (fi := 3) (.ref (σ.2.1 (27 + 0))) (by omega) q_enBP rfl iX2_draft_X2 (by decide) (by decide +kernel) rfl rfl dX2_draft_24 ?_
  refine q_callNi C (As := []) (rest := []) (k := 27 + 0) (q_isG (by omega)).1 (q_enG (by omega)) rfl rfl (kX1_size l σ (q_fill (q_up (q_up V (27 + 0) 1 x) (27 + 0) 2 y) (48 + 0) 0 48) G (i := 0) (w := w9) (h := h9) (by decide) ⟨e1, e2, by omega, by omega, by omega, by omega⟩) 0 (host := RX2) gX2_draft_X1_size_n100 rfl rfl rfl (by decide +kernel) (by decide +kernel) (by decide +kernel) (by decide +kernel) (by decide +kernel) ⟨Nat.le_of_ble_eq_true rfl, Nat.le_of_ble_eq_true rfl⟩ dX2_draft_27 rfl (Nat.le_of_ble_eq_true rfl) ⟨Nat.le_of_ble_eq_true rfl, Nat.le_of_ble_eq_true rfl⟩ (fun r_27 V_7 G_8 hq_27 => ?_)
  obtain ⟨rfl, rfl, rfl⟩ := hq_27
  refine hR _ _ _ _ _ _ _ ?_ rfl (Nat.le_of_ble_eq_true rfl) (Nat.le_of_ble_eq_true rfl) dX2_draft_30
  exact ⟨q_c1_0 ⟨p_4, p_11⟩, by rw [hwe, hhe]; exact (pk_mul _ _), rfl, rfl⟩
abbrev rX2_bead : Room := { frames := 7, cells := 6, slots := 36, locals := 110 }
theorem iX2_bead_X2 : ∀ w ∈ u_ws RX2 TX2 15, w ∈ wsX2_bead := by decide +kernel
set_option maxHeartbeats 4000000 in
set_option maxRecDepth 100000 in
/-- bead -/
theorem kX2_bead (l : Launch) (σ : q_E) (V : q_V) (G : q_G) (hlf : l.stackTraces = false) {w h : Nat} (hd : q_gok V 0 w h) (x y z : Int32) : q_Xi l yX2_bead wsX2_bead rX2_bead σ [.ref (σ.2.1 0), .int x, .int y, .int z] V G (fun r V' G' => (q_c1 (q_ok w x ∧ q_ok h y ∧ q_ok 8 z)) = 0 ∧ (V (48 + 0) (q_n y * w + q_n x)) = r ∧ (q_up V (48 + 0) (q_n y * w + q_n x) z) = V' ∧ G = G') ((fun E V' G' => q_xc [xI] (q_c1 (q_ok w x ∧ q_ok h y ∧ q_ok 8 z)) E ∧ V = V' ∧ G = G')) 6 36 := by
  refine q_Xi_of (cc := cX2_bead) (maxL := 5) (lv := [(0, .ref (σ.2.1 0)), (1, .int x), (2, .int y), (3, .int z)]) (by decide +kernel) rfl (Nat.le_of_ble_eq_true rfl) rfl ?_
  intro p e s m args below meth c Q C hR hO T
  have hdd := hd.2.2
  refine q_aload_n C dX2_bead_0 rfl 0 rfl ?_
  refine q_get C (k := 0) (fi := 3) (.ref (σ.2.1 (27 + 0))) (by omega) q_enBP rfl iX2_bead_X2 (by decide) (by decide +kernel) rfl rfl dX2_bead_1 ?_
  refine q_iload_n C dX2_bead_4 rfl 1 rfl ?_
  refine q_iload_n C dX2_bead_5 rfl 2 rfl ?_
  refine q_callNi C (As := [.int x, .int y]) (rest := []) (k := 27 + 0) (q_isG (by omega)).1 (q_enG (by omega)) rfl rfl (kX1_hasCell l σ V G (i := 0) (by decide) hd x y) 2 (host := RX2) gX2_bead_X1_hasCell_n104 rfl rfl rfl (by decide +kernel) (by decide +kernel) (by decide +kernel) (by decide +kernel) (by decide +kernel) ⟨Nat.le_of_ble_eq_true rfl, Nat.le_of_ble_eq_true rfl⟩ dX2_bead_6 rfl (Nat.le_of_ble_eq_true rfl) ⟨Nat.le_of_ble_eq_true rfl, Nat.le_of_ble_eq_true rfl⟩ (fun r_6 V_1 G_2 hq_6 => ?_)
  obtain ⟨hs_6, rfl, rfl⟩ := hq_6
  refine q_if_ne C 22 dX2_bead_9 (by decide) (fun c_9 => ?_) (fun c_9 => ?_)
  · skip
    have b_6 := (q_is_ne hs_6).mp c_9
    obtain ⟨a, ha, rfl⟩ := b_6.1
    obtain ⟨b, hb, rfl⟩ := b_6.2
    refine q_iload_n C dX2_bead_22 rfl 3 rfl ?_
    refine q_xcallSv C (As := [.int z]) (rest := []) (kX2_checkColour l σ V G hlf z) 1 gX2_bead_X2_checkColour rfl rfl rfl (by decide +kernel) ⟨Nat.le_of_ble_eq_true rfl, Nat.le_of_ble_eq_true rfl⟩ dX2_bead_23 rfl (Nat.le_of_ble_eq_true rfl) ⟨Nat.le_of_ble_eq_true rfl, Nat.le_of_ble_eq_true rfl⟩ (fun E_23 V_3 G_4 hx_23 => ?_) (fun V_3 G_4 hq_23 => ?_)
    · skip
      obtain ⟨rfl, n_23, rfl, rfl⟩ := hx_23
      refine hO _ _ _ _ _ _ _ _ ?_ (Nat.le_of_ble_eq_true rfl) (Nat.le_of_ble_eq_true rfl)
      first | exact ⟨q_xc_i (q_c1_1 (fun q => n_23 q.2.2)) rfl, rfl, rfl⟩
    obtain ⟨p_23, rfl, rfl⟩ := hq_23
    refine q_aload_n C dX2_bead_26 rfl 0 rfl ?_
    refine q_get C (k := 0) (fi := 3) (.ref (σ.2.1 (27 + 0))) (by omega) q_enBP rfl iX2_bead_X2 (by decide) (by decide +kernel) rfl rfl dX2_bead_27 ?_
    refine q_iload_n C dX2_bead_30 rfl 1 rfl ?_
    refine q_iload_n C dX2_bead_31 rfl 2 rfl ?_
    refine q_callNi C (As := [.int (nI a), .int (nI b)]) (rest := []) (k := 27 + 0) (q_isG (by omega)).1 (q_enG (by omega)) rfl rfl (kX1_colourAt l σ V G (i := 0) (by decide) hd ha hb) 2 (host := RX2) gX2_bead_X1_colourAt_n113 rfl rfl rfl (by decide +kernel) (by decide +kernel) (by decide +kernel) (by decide +kernel) (by decide +kernel) ⟨Nat.le_of_ble_eq_true rfl, Nat.le_of_ble_eq_true rfl⟩ dX2_bead_32 rfl (Nat.le_of_ble_eq_true rfl) ⟨Nat.le_of_ble_eq_true rfl, Nat.le_of_ble_eq_true rfl⟩ (fun r_32 V_5 G_6 hq_32 => ?_)
    obtain ⟨rfl, rfl, rfl⟩ := hq_32
    refine q_istore C [(4, .int ((V (48 + 0) (b * w + a)))), (0, .ref (σ.2.1 0)), (1, .int (nI a)), (2, .int (nI b)), (3, .int z)] dX2_bead_35 (by decide) rfl ?_
    refine q_aload_n C dX2_bead_37 rfl 1 rfl ?_
    refine q_get C (k := 0) (fi := 3) (.ref (σ.2.1 (27 + 0))) (by omega) q_enBP rfl iX2_bead_X2 (by decide) (by decide +kernel) rfl rfl dX2_bead_38 ?_
    refine q_iload_n C dX2_bead_41 rfl 2 rfl ?_
    refine q_iload_n C dX2_bead_42 rfl 3 rfl ?_
    refine q_iload_n C dX2_bead_43 rfl 4 rfl ?_
    refine q_callNv C (As := [.int (nI a), .int (nI b), .int z]) (rest := []) (k := 27 + 0) (q_isG (by omega)).1 (q_enG (by omega)) rfl rfl (kX1_paint l σ V G (i := 0) (by decide) hd ha hb z) 3 (host := RX2) gX2_bead_X1_paint_n117 rfl rfl rfl (by decide +kernel) (by decide +kernel) (by decide +kernel) (by decide +kernel) (by decide +kernel) ⟨Nat.le_of_ble_eq_true rfl, Nat.le_of_ble_eq_true rfl⟩ dX2_bead_44 rfl (Nat.le_of_ble_eq_true rfl) ⟨Nat.le_of_ble_eq_true rfl, Nat.le_of_ble_eq_true rfl⟩ (fun V_7 G_8 hq_44 => ?_)
    obtain ⟨rfl, rfl⟩ := hq_44
    refine q_iload C dX2_bead_47 0 rfl ?_
    refine hR _ _ _ _ _ _ _ ?_ rfl (Nat.le_of_ble_eq_true rfl) (Nat.le_of_ble_eq_true rfl) dX2_bead_49
    rw [q_n_nI (n := a) (by omega), q_n_nI (n := b) (by omega)]
    exact ⟨q_c1_0 ⟨q_ok_nI ha, q_ok_nI hb, p_23⟩, rfl, rfl, rfl⟩
  · skip
    have b_6 := (q_is_eq hs_6).mp c_9
    refine q_throw C "java/lang/IndexOutOfBoundsException" "no such cell" T hlf rfl (by decide +kernel) (by decide +kernel) (by decide +kernel) (by decide +kernel) (by decide +kernel) (by decide +kernel) dX2_bead_12 dX2_bead_15 dX2_bead_16 dX2_bead_18 dX2_bead_21 (Nat.le_of_ble_eq_true rfl) (Nat.le_of_ble_eq_true rfl) (Nat.le_of_ble_eq_true rfl) (Nat.le_of_ble_eq_true rfl) (Nat.le_of_ble_eq_true rfl) (Nat.le_of_ble_eq_true rfl) ?_
    first | exact ⟨q_xc_i (q_c1_1 (fun q => b_6 ⟨q.1, q.2.1⟩)) rfl, rfl, rfl⟩
abbrev rX2_patterns : Room := { frames := 1, cells := 0, slots := 0, locals := 12 }
theorem iX2_patterns_X2 : ∀ w ∈ u_ws RX2 TX2 15, w ∈ wsX2_patterns := by decide +kernel
set_option maxHeartbeats 4000000 in
set_option maxRecDepth 100000 in
/-- patterns -/
theorem kX2_patterns (l : Launch) (σ : q_E) (V : q_V) (G : q_G) : q_Mi l yX2_patterns wsX2_patterns rX2_patterns σ [.ref (σ.2.1 0)] V G (fun r V' G' => V 0 6 = r ∧ V = V' ∧ G = G') 0 0 := by
  refine q_Mi_of (cc := cX2_patterns) (maxL := 1) (lv := [(0, .ref (σ.2.1 0))]) (by decide +kernel) rfl (Nat.le_of_ble_eq_true rfl) rfl ?_
  intro p e s m args below meth c Q C hR
  refine q_aload_n C dX2_patterns_0 rfl 0 rfl ?_
  refine q_get C (k := 0) (fi := 6) (.int (V 0 6)) (by omega) q_enBP rfl iX2_patterns_X2 (by decide) (by decide +kernel) rfl rfl dX2_patterns_1 ?_
  refine hR _ _ _ _ _ _ _ ?_ rfl (Nat.le_of_ble_eq_true rfl) (Nat.le_of_ble_eq_true rfl) dX2_patterns_4
  exact ⟨rfl, rfl, rfl⟩
