abbrev rX3_symmetries : Room := { frames := 4, cells := 0, slots := 0, locals := 92 }
set_option maxHeartbeats 4000000 in
set_option maxRecDepth 100000 in
/-- symmetries, the reference -/
theorem kX3_symmetries (l : Launch) (σ : q_E) (V : q_V) (G : q_G) {n : Nat} (hn : V 19 7 = nI n) (hn2 : n ≤ 12) (hp : q_mpats V n) (x : Int32) : q_Mi l yX3_symmetries wsX3_symmetries rX3_symmetries σ [.ref (σ.2.1 19), .int x] V G (fun r V' G' => q_mres V (q_c1 (q_ok n x)) (nI (q_b (q_malk V (q_n x) (q_n x) 4) 1 + q_b (q_malk V (q_n x) (q_n x) 6) 2 + q_b (q_malk V (q_n x) (q_n x) 2) 4 + q_b (q_malk V (q_n x) (q_n x) 1) 8)) (q_up V 19 0 (nI 0)) r V' ∧ G = G') 0 0 := by
  refine q_Mi_of (cc := cX3_symmetries) (maxL := 3) (lv := [(0, .ref (σ.2.1 19)), (1, .int x)]) (by decide +kernel) rfl (Nat.le_of_ble_eq_true rfl) rfl ?_
  intro p e s m args below meth c Q C hR
  refine q_aload_n C dX3_symmetries_0 rfl 0 rfl ?_
  refine q_iload_n C dX3_symmetries_1 rfl 1 rfl ?_
  refine q_callVi C (As := [.int x]) (rest := []) (k := 19) (by omega) q_enMO rfl rfl (kX3_asks l σ V G hn hn2 x) 1 gX3_symmetries_X3_asks rfl rfl rfl (by decide +kernel) ⟨Nat.le_of_ble_eq_true rfl, Nat.le_of_ble_eq_true rfl⟩ dX3_symmetries_2 rfl (Nat.le_of_ble_eq_true rfl) ⟨Nat.le_of_ble_eq_true rfl, Nat.le_of_ble_eq_true rfl⟩ (fun r_2 V_1 G_2 hq_2 => ?_)
  obtain ⟨ha_2, rfl⟩ := hq_2
  refine q_if_ne C 10 dX3_symmetries_5 (by decide) (fun c_5 => ?_) (fun c_5 => ?_)
  · skip
    rcases ha_2 with ⟨b_2, e2, e3⟩ | ⟨b_2, e2, e3⟩
    rotate_left
    · exact absurd e2.symm c_5
    subst e3
    obtain ⟨a, ha, rfl⟩ := b_2
    have J_3 : ∀ (v : Nat) (hv : v = q_b (q_malk V a a 4) 1), q_W σ p l e rX3_symmetries s m args below meth c Q 3 0 0 (q_up V 19 0 (nI 0)) G [(0, .ref (σ.2.1 19)), (1, .int (nI a))] 26 [.int (nI v)] := by
      intro v hv
      subst hv
      refine q_istore_n C [(2, .int (nI (q_b (q_malk V a a 4) 1))), (0, .ref (σ.2.1 19)), (1, .int (nI a))] dX3_symmetries_26 rfl (by decide) rfl ?_
      refine q_iload_n C dX3_symmetries_27 rfl 0 rfl ?_
      have J_4 : ∀ (v : Nat) (hv : v = q_b (q_malk V a a 6) 2), q_W σ p l e rX3_symmetries s m args below meth c Q 3 0 0 (q_up V 19 0 (nI 0)) G [(0, .ref (σ.2.1 19)), (1, .int (nI a))] 44 [.int (nI v), .int (nI (q_b (q_malk V a a 4) 1))] := by
        intro v hv
        subst hv
        refine q_iaddN C dX3_symmetries_44  ?_
        refine q_istore_n C [(2, .int (nI ((q_b (q_malk V a a 4) 1) + (q_b (q_malk V a a 6) 2)))), (0, .ref (σ.2.1 19)), (1, .int (nI a))] dX3_symmetries_45 rfl (by decide) rfl ?_
        refine q_iload_n C dX3_symmetries_46 rfl 0 rfl ?_
        have J_5 : ∀ (v : Nat) (hv : v = q_b (q_malk V a a 2) 4), q_W σ p l e rX3_symmetries s m args below meth c Q 3 0 0 (q_up V 19 0 (nI 0)) G [(0, .ref (σ.2.1 19)), (1, .int (nI a))] 63 [.int (nI v), .int (nI (q_b (q_malk V a a 4) 1 + q_b (q_malk V a a 6) 2))] := by
          intro v hv
          subst hv
          refine q_iaddN C dX3_symmetries_63  ?_
          refine q_istore_n C [(2, .int (nI ((q_b (q_malk V a a 4) 1 + q_b (q_malk V a a 6) 2) + (q_b (q_malk V a a 2) 4)))), (0, .ref (σ.2.1 19)), (1, .int (nI a))] dX3_symmetries_64 rfl (by decide) rfl ?_
          refine q_iload_n C dX3_symmetries_65 rfl 0 rfl ?_
          have J_6 : ∀ (v : Nat) (hv : v = q_b (q_malk V a a 1) 8), q_W σ p l e rX3_symmetries s m args below meth c Q 3 0 0 (q_up V 19 0 (nI 0)) G [(0, .ref (σ.2.1 19)), (1, .int (nI a))] 83 [.int (nI v), .int (nI (q_b (q_malk V a a 4) 1 + q_b (q_malk V a a 6) 2 + q_b (q_malk V a a 2) 4))] := by
            intro v hv
            subst hv
            refine q_iaddN C dX3_symmetries_83  ?_
            refine hR _ _ _ _ _ _ _ ?_ rfl (Nat.le_of_ble_eq_true rfl) (Nat.le_of_ble_eq_true rfl) dX3_symmetries_84
            refine ⟨?_, rfl⟩
            simp only [q_n_nI (n := a) (by omega)]
            exact q_mres_0 (q_c1_0 (q_ok_nI ha)) rfl rfl
          refine q_aload_n C dX3_symmetries_66 rfl 1 rfl ?_
          refine q_iload_n C dX3_symmetries_67 rfl 2 rfl ?_
          refine q_iload_n C dX3_symmetries_68 rfl 2 rfl ?_
          refine q_iconst C (nI 1) dX3_symmetries_69 (by decide) ?_
          refine q_iconst C (nI 0) dX3_symmetries_70 (by decide) ?_
          refine q_callVi C (As := [.int (nI a), .int (nI a), .int (nI 1), .int (nI 0)]) (rest := [.int (nI ((q_b (q_malk V a a 4) 1 + q_b (q_malk V a a 6) 2) + (q_b (q_malk V a a 2) 4)))]) (k := 19) (by omega) q_enMO rfl rfl (kX3_isImage l σ (q_up V 19 0 (nI 0)) G (o := a) (pb := a) (by omega) (hp a ha) (by omega) (hp a ha) (k := 1) (by decide)) 4 gX3_symmetries_X3_isImage rfl rfl rfl (by decide +kernel) ⟨Nat.le_of_ble_eq_true rfl, Nat.le_of_ble_eq_true rfl⟩ dX3_symmetries_71 rfl (Nat.le_of_ble_eq_true rfl) ⟨Nat.le_of_ble_eq_true rfl, Nat.le_of_ble_eq_true rfl⟩ (fun r_71 V_7 G_8 hq_71 => ?_)
          obtain ⟨hs_71, rfl, rfl⟩ := hq_71
          refine q_if_eq C 82 dX3_symmetries_74 (by decide) (fun c_74 => ?_) (fun c_74 => ?_)
          · skip
            have b_71 := (q_is_eq hs_71).mp c_74
            refine q_iconst C (nI 0) dX3_symmetries_82 (by decide) ?_
            refine q_sub (lv' := [(0, .ref (σ.2.1 19)), (1, .int (nI a))]) [1, 2] rfl ?_
            exact J_6 _ (by first | exact (q_b_y b_71 8).symm | exact (q_b_n b_71 8).symm)
          · skip
            have b_71 := (q_is_ne hs_71).mp c_74
            refine q_bipush C (nI 8) dX3_symmetries_77 (by decide) ?_
            refine q_goto C 83 dX3_symmetries_79 (by decide) ?_
            refine q_sub (lv' := [(0, .ref (σ.2.1 19)), (1, .int (nI a))]) [1, 2] rfl ?_
            exact J_6 _ (by first | exact (q_b_y b_71 8).symm | exact (q_b_n b_71 8).symm)
        refine q_aload_n C dX3_symmetries_47 rfl 1 rfl ?_
        refine q_iload_n C dX3_symmetries_48 rfl 2 rfl ?_
        refine q_iload_n C dX3_symmetries_49 rfl 2 rfl ?_
        refine q_iconst C (nI 2) dX3_symmetries_50 (by decide) ?_
        refine q_iconst C (nI 0) dX3_symmetries_51 (by decide) ?_
        refine q_callVi C (As := [.int (nI a), .int (nI a), .int (nI 2), .int (nI 0)]) (rest := [.int (nI ((q_b (q_malk V a a 4) 1) + (q_b (q_malk V a a 6) 2)))]) (k := 19) (by omega) q_enMO rfl rfl (kX3_isImage l σ (q_up V 19 0 (nI 0)) G (o := a) (pb := a) (by omega) (hp a ha) (by omega) (hp a ha) (k := 2) (by decide)) 4 gX3_symmetries_X3_isImage rfl rfl rfl (by decide +kernel) ⟨Nat.le_of_ble_eq_true rfl, Nat.le_of_ble_eq_true rfl⟩ dX3_symmetries_52 rfl (Nat.le_of_ble_eq_true rfl) ⟨Nat.le_of_ble_eq_true rfl, Nat.le_of_ble_eq_true rfl⟩ (fun r_52 V_9 G_10 hq_52 => ?_)
        obtain ⟨hs_52, rfl, rfl⟩ := hq_52
        refine q_if_eq C 62 dX3_symmetries_55 (by decide) (fun c_55 => ?_) (fun c_55 => ?_)
        · skip
          have b_52 := (q_is_eq hs_52).mp c_55
          refine q_iconst C (nI 0) dX3_symmetries_62 (by decide) ?_
          refine q_sub (lv' := [(0, .ref (σ.2.1 19)), (1, .int (nI a))]) [1, 2] rfl ?_
          exact J_5 _ (by first | exact (q_b_y b_52 4).symm | exact (q_b_n b_52 4).symm)
        · skip
          have b_52 := (q_is_ne hs_52).mp c_55
          refine q_iconst C (nI 4) dX3_symmetries_58 (by decide) ?_
          refine q_goto C 63 dX3_symmetries_59 (by decide) ?_
          refine q_sub (lv' := [(0, .ref (σ.2.1 19)), (1, .int (nI a))]) [1, 2] rfl ?_
          exact J_5 _ (by first | exact (q_b_y b_52 4).symm | exact (q_b_n b_52 4).symm)
      refine q_aload_n C dX3_symmetries_28 rfl 1 rfl ?_
      refine q_iload_n C dX3_symmetries_29 rfl 2 rfl ?_
      refine q_iload_n C dX3_symmetries_30 rfl 2 rfl ?_
      refine q_iconst C (nI 2) dX3_symmetries_31 (by decide) ?_
      refine q_iconst C (nI 1) dX3_symmetries_32 (by decide) ?_
      refine q_callVi C (As := [.int (nI a), .int (nI a), .int (nI 2), .int (nI 1)]) (rest := [.int (nI (q_b (q_malk V a a 4) 1))]) (k := 19) (by omega) q_enMO rfl rfl (kX3_isImage l σ (q_up V 19 0 (nI 0)) G (o := a) (pb := a) (by omega) (hp a ha) (by omega) (hp a ha) (k := 6) (by decide)) 4 gX3_symmetries_X3_isImage rfl rfl rfl (by decide +kernel) ⟨Nat.le_of_ble_eq_true rfl, Nat.le_of_ble_eq_true rfl⟩ dX3_symmetries_33 rfl (Nat.le_of_ble_eq_true rfl) ⟨Nat.le_of_ble_eq_true rfl, Nat.le_of_ble_eq_true rfl⟩ (fun r_33 V_11 G_12 hq_33 => ?_)
      obtain ⟨hs_33, rfl, rfl⟩ := hq_33
      refine q_if_eq C 43 dX3_symmetries_36 (by decide) (fun c_36 => ?_) (fun c_36 => ?_)
      · skip
        have b_33 := (q_is_eq hs_33).mp c_36
        refine q_iconst C (nI 0) dX3_symmetries_43 (by decide) ?_
        refine q_sub (lv' := [(0, .ref (σ.2.1 19)), (1, .int (nI a))]) [1, 2] rfl ?_
        exact J_4 _ (by first | exact (q_b_y b_33 2).symm | exact (q_b_n b_33 2).symm)
      · skip
        have b_33 := (q_is_ne hs_33).mp c_36
        refine q_iconst C (nI 2) dX3_symmetries_39 (by decide) ?_
        refine q_goto C 44 dX3_symmetries_40 (by decide) ?_
        refine q_sub (lv' := [(0, .ref (σ.2.1 19)), (1, .int (nI a))]) [1, 2] rfl ?_
        exact J_4 _ (by first | exact (q_b_y b_33 2).symm | exact (q_b_n b_33 2).symm)
    refine q_aload_n C dX3_symmetries_10 rfl 0 rfl ?_
    refine q_iload_n C dX3_symmetries_11 rfl 1 rfl ?_
    refine q_iload_n C dX3_symmetries_12 rfl 1 rfl ?_
    refine q_iconst C (nI 0) dX3_symmetries_13 (by decide) ?_
    refine q_iconst C (nI 1) dX3_symmetries_14 (by decide) ?_
    refine q_callVi C (As := [.int (nI a), .int (nI a), .int (nI 0), .int (nI 1)]) (rest := []) (k := 19) (by omega) q_enMO rfl rfl (kX3_isImage l σ (q_up V 19 0 (nI 0)) G (o := a) (pb := a) (by omega) (hp a ha) (by omega) (hp a ha) (k := 4) (by decide)) 4 gX3_symmetries_X3_isImage rfl rfl rfl (by decide +kernel) ⟨Nat.le_of_ble_eq_true rfl, Nat.le_of_ble_eq_true rfl⟩ dX3_symmetries_15 rfl (Nat.le_of_ble_eq_true rfl) ⟨Nat.le_of_ble_eq_true rfl, Nat.le_of_ble_eq_true rfl⟩ (fun r_15 V_13 G_14 hq_15 => ?_)
    obtain ⟨hs_15, rfl, rfl⟩ := hq_15
    refine q_if_eq C 25 dX3_symmetries_18 (by decide) (fun c_18 => ?_) (fun c_18 => ?_)
    · skip
      have b_15 := (q_is_eq hs_15).mp c_18
      refine q_iconst C (nI 0) dX3_symmetries_25 (by decide) ?_
      refine q_sub (lv' := [(0, .ref (σ.2.1 19)), (1, .int (nI a))]) [0, 1] rfl ?_
      exact J_3 _ (by first | exact (q_b_y b_15 1).symm | exact (q_b_n b_15 1).symm)
    · skip
      have b_15 := (q_is_ne hs_15).mp c_18
      refine q_iconst C (nI 1) dX3_symmetries_21 (by decide) ?_
      refine q_goto C 26 dX3_symmetries_22 (by decide) ?_
      refine q_sub (lv' := [(0, .ref (σ.2.1 19)), (1, .int (nI a))]) [0, 1] rfl ?_
      exact J_3 _ (by first | exact (q_b_y b_15 1).symm | exact (q_b_n b_15 1).symm)
  · skip
    rcases ha_2 with ⟨b_2, e2, e3⟩ | ⟨b_2, e2, e3⟩
    · rw [c_5] at e2; exact absurd e2 (by decide)
    subst e3
    refine q_iconst C (nI 0) dX3_symmetries_8 (by decide) ?_
    refine hR _ _ _ _ _ _ _ ?_ rfl (Nat.le_of_ble_eq_true rfl) (Nat.le_of_ble_eq_true rfl) dX3_symmetries_9
    refine ⟨?_, rfl⟩
    exact q_mres_1 (q_c1_1 b_2) (by decide) rfl
abbrev rX3_sign : Room := { frames := 2, cells := 0, slots := 0, locals := 34 }
theorem iX3_sign_X3 : ∀ w ∈ u_ws RX3 TX3 26, w ∈ wsX3_sign := by decide +kernel
set_option maxHeartbeats 4000000 in
set_option maxRecDepth 100000 in
/-- sign, the reference -/
theorem kX3_sign (l : Launch) (σ : q_E) (V : q_V) (G : q_G) {w h : Nat} (hdw : V 19 4 = nI w) (hdh : V 19 5 = nI h) (hw1 : 1 ≤ w) (hw8 : w ≤ 8) (hh1 : 1 ≤ h) (hh6 : h ≤ 6) {ns : Nat} (hs : V 19 20 = nI ns) (hs2 : ns ≤ 8) (x : Int32) : q_Mi l yX3_sign wsX3_sign rX3_sign σ [.ref (σ.2.1 19), .int x] V G (fun r V' G' => q_mres V (q_c2 (¬ x < nI 1 ∧ ¬ nI 100 < x) (w ≤ 3 ∧ h ≤ 3 ∧ ns ≠ 8)) (nI ns) (q_up (q_scp (q_up (q_up (q_up (q_up V 19 0 (nI 0)) 85 ns (nI w)) 86 ns (nI h)) 88 ns x) ns w (w * h)) 19 20 (nI (ns + 1))) r V' ∧ G = G') 0 0 := by
  refine q_Mi_of (cc := cX3_sign) (maxL := 3) (lv := [(0, .ref (σ.2.1 19)), (1, .int x)]) (by decide +kernel) rfl (Nat.le_of_ble_eq_true rfl) rfl ?_
  intro p e s m args below meth c Q C hR
  have hwh : w * h ≤ 48 := Nat.mul_le_mul hw8 hh6
  refine q_aload_n C dX3_sign_0 rfl 0 rfl ?_
  refine q_iload_n C dX3_sign_1 rfl 1 rfl ?_
  refine q_iconst C (nI 1) dX3_sign_2 (by decide) ?_
  refine q_bipush C (nI 100) dX3_sign_3 (by decide) ?_
  refine q_callSi C (As := [.int x, .int (nI 1), .int (nI 100)]) (rest := [.ref (σ.2.1 19)]) (kX3_isIn l σ V G x (nI 1) (nI 100)) 3 gX3_sign_X3_isIn rfl rfl rfl (by decide +kernel) ⟨Nat.le_of_ble_eq_true rfl, Nat.le_of_ble_eq_true rfl⟩ dX3_sign_5 rfl (Nat.le_of_ble_eq_true rfl) ⟨Nat.le_of_ble_eq_true rfl, Nat.le_of_ble_eq_true rfl⟩ (fun r_5 V_1 G_2 hq_5 => ?_)
  obtain ⟨hs_5, rfl, rfl⟩ := hq_5
  refine q_if_ne C 15 dX3_sign_8 (by decide) (fun c_8 => ?_) (fun c_8 => ?_)
  · skip
    have b_5 := (q_is_ne hs_5).mp c_8
    refine q_aload_n C dX3_sign_15 rfl 0 rfl ?_
    refine q_get C (k := 19) (fi := 4) (.int (nI w)) (by omega) q_enMO rfl iX3_sign_X3 (by decide) (by decide +kernel) rfl (congrArg (fun z => some (Value.int z)) (hdw)) dX3_sign_16 ?_
    refine q_iconst C (nI 3) dX3_sign_19 (by decide) ?_
    refine q_icmp_gtN C 40 dX3_sign_20 (by decide) (by omega) (by omega) (fun c_20 => ?_) (fun c_20 => ?_)
    · skip
      refine q_iconst C (nI 2) dX3_sign_40 (by decide) ?_
      refine q_goto C 45 dX3_sign_41 (by decide) ?_
      refine q_put C (k := 19) (fi := 0) tyX3 tyX3_ok nmX3 (by omega) q_enMO rfl iX3_sign_X3 (by decide) (by decide +kernel) rfl rfl (by decide +kernel) (Nat.le_of_ble_eq_true rfl) (q_enMO |>.trans (by simp [q_up])) dX3_sign_45 ?_
      refine q_aload_n C dX3_sign_48 rfl 0 rfl ?_
      refine q_get C (k := 19) (fi := 0) (.int (nI 2)) (by omega) q_enMO rfl iX3_sign_X3 (by decide) (by decide +kernel) rfl (congrArg (fun z => some (Value.int z)) (q_up_self _ _ _ _)) dX3_sign_49 ?_
      refine q_if_le C 57 dX3_sign_52 (by decide) (fun c_52 => absurd c_52 (by decide)) (fun _ => ?_)
      refine q_iconst C (nI 0) dX3_sign_55 (by decide) ?_
      refine hR _ _ _ _ _ _ _ ?_ rfl (Nat.le_of_ble_eq_true rfl) (Nat.le_of_ble_eq_true rfl) dX3_sign_56
      refine ⟨?_, rfl⟩
      first | exact q_mres_1 (q_c2_2 b_5 (fun q => Nat.not_lt.mpr q.1 c_20)) (by decide) rfl | exact q_mres_1 (q_c2_2 b_5 (fun q => Nat.not_lt.mpr q.2.1 c_28)) (by decide) rfl | exact q_mres_1 (q_c2_2 b_5 (fun q => q.2.2 c_37)) (by decide) rfl
    · skip
      refine q_aload_n C dX3_sign_23 rfl 0 rfl ?_
      refine q_get C (k := 19) (fi := 5) (.int (nI h)) (by omega) q_enMO rfl iX3_sign_X3 (by decide) (by decide +kernel) rfl (congrArg (fun z => some (Value.int z)) (hdh)) dX3_sign_24 ?_
      refine q_iconst C (nI 3) dX3_sign_27 (by decide) ?_
      refine q_icmp_gtN C 40 dX3_sign_28 (by decide) (by omega) (by omega) (fun c_28 => ?_) (fun c_28 => ?_)
      · skip
        refine q_iconst C (nI 2) dX3_sign_40 (by decide) ?_
        refine q_goto C 45 dX3_sign_41 (by decide) ?_
        refine q_put C (k := 19) (fi := 0) tyX3 tyX3_ok nmX3 (by omega) q_enMO rfl iX3_sign_X3 (by decide) (by decide +kernel) rfl rfl (by decide +kernel) (Nat.le_of_ble_eq_true rfl) (q_enMO |>.trans (by simp [q_up])) dX3_sign_45 ?_
        refine q_aload_n C dX3_sign_48 rfl 0 rfl ?_
        refine q_get C (k := 19) (fi := 0) (.int (nI 2)) (by omega) q_enMO rfl iX3_sign_X3 (by decide) (by decide +kernel) rfl (congrArg (fun z => some (Value.int z)) (q_up_self _ _ _ _)) dX3_sign_49 ?_
        refine q_if_le C 57 dX3_sign_52 (by decide) (fun c_52 => absurd c_52 (by decide)) (fun _ => ?_)
        refine q_iconst C (nI 0) dX3_sign_55 (by decide) ?_
        refine hR _ _ _ _ _ _ _ ?_ rfl (Nat.le_of_ble_eq_true rfl) (Nat.le_of_ble_eq_true rfl) dX3_sign_56
        refine ⟨?_, rfl⟩
        first | exact q_mres_1 (q_c2_2 b_5 (fun q => Nat.not_lt.mpr q.1 c_20)) (by decide) rfl | exact q_mres_1 (q_c2_2 b_5 (fun q => Nat.not_lt.mpr q.2.1 c_28)) (by decide) rfl | exact q_mres_1 (q_c2_2 b_5 (fun q => q.2.2 c_37)) (by decide) rfl
      · skip
        have hww : w * h ≤ 9 := Nat.mul_le_mul c_20 c_28
        refine q_aload_n C dX3_sign_31 rfl 0 rfl ?_
        refine q_get C (k := 19) (fi := 20) (.int (nI ns)) (by omega) q_enMO rfl iX3_sign_X3 (by decide) (by decide +kernel) rfl (congrArg (fun z => some (Value.int z)) (hs)) dX3_sign_32 ?_
        refine q_bipush C (nI 8) dX3_sign_35 (by decide) ?_
        refine q_icmp_neN C 44 dX3_sign_37 (by decide) (by omega) (by omega) (fun c_37 => ?_) (fun c_37 => ?_)
        · skip
          refine q_iconst C (nI 0) dX3_sign_44 (by decide) ?_
          refine q_put C (k := 19) (fi := 0) tyX3 tyX3_ok nmX3 (by omega) q_enMO rfl iX3_sign_X3 (by decide) (by decide +kernel) rfl rfl (by decide +kernel) (Nat.le_of_ble_eq_true rfl) (q_enMO |>.trans (by simp [q_up])) dX3_sign_45 ?_
          refine q_aload_n C dX3_sign_48 rfl 0 rfl ?_
          refine q_get C (k := 19) (fi := 0) (.int (nI 0)) (by omega) q_enMO rfl iX3_sign_X3 (by decide) (by decide +kernel) rfl (congrArg (fun z => some (Value.int z)) (q_up_self _ _ _ _)) dX3_sign_49 ?_
          refine q_if_le C 57 dX3_sign_52 (by decide) (fun _ => ?_) (fun c_52 => absurd c_52 (by decide))
          refine q_aload_n C dX3_sign_57 rfl 0 rfl ?_
          refine q_get C (k := 19) (fi := 21) (.ref (σ.2.1 85)) (by omega) q_enMO rfl iX3_sign_X3 (by decide) (by decide +kernel) rfl rfl dX3_sign_58 ?_
          refine q_aload_n C dX3_sign_61 rfl 0 rfl ?_
          refine q_get C (k := 19) (fi := 20) (.int (nI ns)) (by omega) q_enMO rfl iX3_sign_X3 (by decide) (by decide +kernel) rfl ((congrArg (fun z => some (Value.int z)) (q_up_ne _ _ (by omega))).trans (congrArg (fun z => some (Value.int z)) (hs))) dX3_sign_62 ?_
          refine q_aload_n C dX3_sign_65 rfl 0 rfl ?_
          refine q_get C (k := 19) (fi := 4) (.int (nI w)) (by omega) q_enMO rfl iX3_sign_X3 (by decide) (by decide +kernel) rfl ((congrArg (fun z => some (Value.int z)) (q_up_ne _ _ (by omega))).trans (congrArg (fun z => some (Value.int z)) (hdw))) dX3_sign_66 ?_
          refine q_iastN C (k := 85) (n := 8) ⟨by decide, by decide, by decide⟩ (by omega) (by decide) dX3_sign_69 ?_
          refine q_aload_n C dX3_sign_70 rfl 0 rfl ?_
          refine q_get C (k := 19) (fi := 22) (.ref (σ.2.1 86)) (by omega) q_enMO rfl iX3_sign_X3 (by decide) (by decide +kernel) rfl rfl dX3_sign_71 ?_
          refine q_aload_n C dX3_sign_74 rfl 0 rfl ?_
          refine q_get C (k := 19) (fi := 20) (.int (nI ns)) (by omega) q_enMO rfl iX3_sign_X3 (by decide) (by decide +kernel) rfl ((congrArg (fun z => some (Value.int z)) ((q_up_ne _ _ (by omega)).trans (q_up_ne _ _ (by omega)))).trans (congrArg (fun z => some (Value.int z)) (hs))) dX3_sign_75 ?_
          refine q_aload_n C dX3_sign_78 rfl 0 rfl ?_
          refine q_get C (k := 19) (fi := 5) (.int (nI h)) (by omega) q_enMO rfl iX3_sign_X3 (by decide) (by decide +kernel) rfl ((congrArg (fun z => some (Value.int z)) ((q_up_ne _ _ (by omega)).trans (q_up_ne _ _ (by omega)))).trans (congrArg (fun z => some (Value.int z)) (hdh))) dX3_sign_79 ?_
          refine q_iastN C (k := 86) (n := 8) ⟨by decide, by decide, by decide⟩ (by omega) (by decide) dX3_sign_82 ?_
          refine q_aload_n C dX3_sign_83 rfl 0 rfl ?_
          refine q_get C (k := 19) (fi := 24) (.ref (σ.2.1 88)) (by omega) q_enMO rfl iX3_sign_X3 (by decide) (by decide +kernel) rfl rfl dX3_sign_84 ?_
          refine q_aload_n C dX3_sign_87 rfl 0 rfl ?_
          refine q_get C (k := 19) (fi := 20) (.int (nI ns)) (by omega) q_enMO rfl iX3_sign_X3 (by decide) (by decide +kernel) rfl ((congrArg (fun z => some (Value.int z)) ((q_up_ne _ _ (by omega)).trans ((q_up_ne _ _ (by omega)).trans (q_up_ne _ _ (by omega))))).trans (congrArg (fun z => some (Value.int z)) (hs))) dX3_sign_88 ?_
          refine q_iload_n C dX3_sign_91 rfl 1 rfl ?_
          refine q_iastN C (k := 88) (n := 8) ⟨by decide, by decide, by decide⟩ (by omega) (by decide) dX3_sign_92 ?_
          refine q_iconst C (nI 0) dX3_sign_93 (by decide) ?_
          refine q_istore_n C [(2, .int (nI 0)), (0, .ref (σ.2.1 19)), (1, .int x)] dX3_sign_94 rfl (by decide) rfl ?_
          have L_3 : ∀ (nL_3 : Nat) (j : Nat) (hj : j ≤ w * h), w * h - j < nL_3 → q_W σ p l e rX3_sign s m args below meth c Q 3 0 0 (q_scp (q_up (q_up (q_up (q_up V 19 0 (nI 0)) 85 ns (nI w)) 86 ns (nI h)) 88 ns x) ns w j) G [(2, .int (nI j)), (0, .ref (σ.2.1 19)), (1, .int x)] 95 [] := by
            intro nL_3
            induction nL_3 with
            | zero => intro j hj h; exact absurd h (Nat.not_lt_zero _)
            | succ nL_3 ihL_3 =>
              intro j hj hmL_3
              refine q_iload_n C dX3_sign_95 rfl 0 rfl ?_
              refine q_aload_n C dX3_sign_96 rfl 1 rfl ?_
              refine q_get C (k := 19) (fi := 4) (.int (nI w)) (by omega) q_enMO rfl iX3_sign_X3 (by decide) (by decide +kernel) rfl (by rw [← hdw]; rfl) dX3_sign_97 ?_
              refine q_aload_n C dX3_sign_100 rfl 1 rfl ?_
              refine q_get C (k := 19) (fi := 5) (.int (nI h)) (by omega) q_enMO rfl iX3_sign_X3 (by decide) (by decide +kernel) rfl (by rw [← hdh]; rfl) dX3_sign_101 ?_
              refine q_imulN C dX3_sign_104  ?_
              refine q_icmp_geN C 149 dX3_sign_105 (by decide) (by omega) (by omega) (fun c_105 => ?_) (fun c_105 => ?_)
              · skip
                refine q_aload_n C dX3_sign_149 rfl 1 rfl ?_
                refine q_dup C dX3_sign_150 rfl ?_
                refine q_get C (k := 19) (fi := 20) (.int (nI ns)) (by omega) q_enMO rfl iX3_sign_X3 (by decide) (by decide +kernel) rfl (by rw [← hs]; rfl) dX3_sign_151 ?_
                refine q_iconst C (nI 1) dX3_sign_154 (by decide) ?_
                refine q_iaddN C dX3_sign_155  ?_
                refine q_put C (k := 19) (fi := 20) tyX3 tyX3_ok nmX3 (by omega) q_enMO rfl iX3_sign_X3 (by decide) (by decide +kernel) rfl rfl (by decide +kernel) (Nat.le_of_ble_eq_true rfl) (q_enMO |>.trans (by simp [q_up])) dX3_sign_156 ?_
                refine q_aload_n C dX3_sign_159 rfl 1 rfl ?_
                refine q_get C (k := 19) (fi := 20) (.int (nI (ns + 1))) (by omega) q_enMO rfl iX3_sign_X3 (by decide) (by decide +kernel) rfl (congrArg (fun z => some (Value.int z)) (q_up_self _ _ _ _)) dX3_sign_160 ?_
                refine q_iconst C (nI 1) dX3_sign_163 (by decide) ?_
                refine q_isubN C dX3_sign_164 (by omega) ?_
                refine hR _ _ _ _ _ _ _ ?_ rfl (Nat.le_of_ble_eq_true rfl) (Nat.le_of_ble_eq_true rfl) dX3_sign_165
                obtain rfl : j = w * h := by omega
                exact ⟨q_mres_0 (q_c2_0 b_5 ⟨c_20, c_28, c_37⟩) (by rw [Nat.add_sub_cancel]) rfl, rfl⟩
              · skip
                have hd1 := q_div_lt c_105 (by omega : 0 < w)
                have hd2 := q_mod_lt (k := j) (by omega : 0 < w)
                refine q_aload_n C dX3_sign_108 rfl 1 rfl ?_
                refine q_get C (k := 19) (fi := 23) (.ref (σ.2.1 87)) (by omega) q_enMO rfl iX3_sign_X3 (by decide) (by decide +kernel) rfl rfl dX3_sign_109 ?_
                refine q_bipush C (nI 9) dX3_sign_112 (by decide) ?_
                refine q_aload_n C dX3_sign_114 rfl 1 rfl ?_
                refine q_get C (k := 19) (fi := 20) (.int (nI ns)) (by omega) q_enMO rfl iX3_sign_X3 (by decide) (by decide +kernel) rfl (by rw [← hs]; rfl) dX3_sign_115 ?_
                refine q_imulN C dX3_sign_118  ?_
                refine q_iload_n C dX3_sign_119 rfl 0 rfl ?_
                refine q_iaddN C dX3_sign_120  ?_
                refine q_aload_n C dX3_sign_121 rfl 1 rfl ?_
                refine q_get C (k := 19) (fi := 6) (.ref (σ.2.1 72)) (by omega) q_enMO rfl iX3_sign_X3 (by decide) (by decide +kernel) rfl rfl dX3_sign_122 ?_
                refine q_bipush C (nI 8) dX3_sign_125 (by decide) ?_
                refine q_iload_n C dX3_sign_127 rfl 0 rfl ?_
                refine q_aload_n C dX3_sign_128 rfl 1 rfl ?_
                refine q_get C (k := 19) (fi := 4) (.int (nI w)) (by omega) q_enMO rfl iX3_sign_X3 (by decide) (by decide +kernel) rfl (by rw [← hdw]; rfl) dX3_sign_129 ?_
                refine q_idivN C dX3_sign_132 (by omega) (by omega) (by omega) ?_
                refine q_imulN C dX3_sign_133  ?_
                refine q_iload_n C dX3_sign_134 rfl 0 rfl ?_
                refine q_aload_n C dX3_sign_135 rfl 1 rfl ?_
                refine q_get C (k := 19) (fi := 4) (.int (nI w)) (by omega) q_enMO rfl iX3_sign_X3 (by decide) (by decide +kernel) rfl (by rw [← hdw]; rfl) dX3_sign_136 ?_
                refine q_iremN C dX3_sign_139 (by omega) (by omega) (by omega) ?_
                refine q_iaddN C dX3_sign_140  ?_
                refine q_ialdN C (k := 72) (n := 48) ⟨by decide, by decide, by decide⟩ (by omega) (by decide) dX3_sign_141 ?_
                refine q_iastN C (k := 87) (n := 72) ⟨by decide, by decide, by decide⟩ (by omega) (by decide) dX3_sign_142 ?_
                refine q_VG (V' := q_scp (q_up (q_up (q_up (q_up V 19 0 (nI 0)) 85 ns (nI w)) 86 ns (nI h)) 88 ns x) ns w (j + 1)) (G' := G) (by exact q_scp_succ _ _ _ _) rfl ?_
                refine q_iincN C [(2, .int (nI (j + 1))), (0, .ref (σ.2.1 19)), (1, .int x)] dX3_sign_143 0 rfl (by decide) rfl ?_
                refine q_goto C 95 dX3_sign_146 (by decide) ?_
                refine q_sub (lv' := [(2, .int (nI (j + 1))), (0, .ref (σ.2.1 19)), (1, .int x)]) [0, 1, 2] rfl ?_
                exact ihL_3 (j + 1) (by omega) (by omega)
          refine q_sub (lv' := [(2, .int (nI 0)), (0, .ref (σ.2.1 19)), (1, .int x)]) [0, 1, 2] rfl ?_
          refine q_VG (V' := q_scp (q_up (q_up (q_up (q_up V 19 0 (nI 0)) 85 ns (nI w)) 86 ns (nI h)) 88 ns x) ns w 0) (G' := G) ((q_scp_0 _ _ _).symm) rfl ?_
          exact L_3 _ 0 (Nat.zero_le _) (Nat.lt_succ_self _)
        · skip
          refine q_iconst C (nI 2) dX3_sign_40 (by decide) ?_
          refine q_goto C 45 dX3_sign_41 (by decide) ?_
          refine q_put C (k := 19) (fi := 0) tyX3 tyX3_ok nmX3 (by omega) q_enMO rfl iX3_sign_X3 (by decide) (by decide +kernel) rfl rfl (by decide +kernel) (Nat.le_of_ble_eq_true rfl) (q_enMO |>.trans (by simp [q_up])) dX3_sign_45 ?_
          refine q_aload_n C dX3_sign_48 rfl 0 rfl ?_
          refine q_get C (k := 19) (fi := 0) (.int (nI 2)) (by omega) q_enMO rfl iX3_sign_X3 (by decide) (by decide +kernel) rfl (congrArg (fun z => some (Value.int z)) (q_up_self _ _ _ _)) dX3_sign_49 ?_
          refine q_if_le C 57 dX3_sign_52 (by decide) (fun c_52 => absurd c_52 (by decide)) (fun _ => ?_)
          refine q_iconst C (nI 0) dX3_sign_55 (by decide) ?_
          refine hR _ _ _ _ _ _ _ ?_ rfl (Nat.le_of_ble_eq_true rfl) (Nat.le_of_ble_eq_true rfl) dX3_sign_56
          refine ⟨?_, rfl⟩
          first | exact q_mres_1 (q_c2_2 b_5 (fun q => Nat.not_lt.mpr q.1 c_20)) (by decide) rfl | exact q_mres_1 (q_c2_2 b_5 (fun q => Nat.not_lt.mpr q.2.1 c_28)) (by decide) rfl | exact q_mres_1 (q_c2_2 b_5 (fun q => q.2.2 c_37)) (by decide) rfl
  · skip
    have b_5 := (q_is_eq hs_5).mp c_8
    refine q_iconst C (nI 1) dX3_sign_11 (by decide) ?_
    refine q_goto C 45 dX3_sign_12 (by decide) ?_
    refine q_put C (k := 19) (fi := 0) tyX3 tyX3_ok nmX3 (by omega) q_enMO rfl iX3_sign_X3 (by decide) (by decide +kernel) rfl rfl (by decide +kernel) (Nat.le_of_ble_eq_true rfl) (q_enMO |>.trans (by simp [q_up])) dX3_sign_45 ?_
    refine q_aload_n C dX3_sign_48 rfl 0 rfl ?_
    refine q_get C (k := 19) (fi := 0) (.int (nI 1)) (by omega) q_enMO rfl iX3_sign_X3 (by decide) (by decide +kernel) rfl (congrArg (fun z => some (Value.int z)) (q_up_self _ _ _ _)) dX3_sign_49 ?_
    refine q_if_le C 57 dX3_sign_52 (by decide) (fun c_52 => absurd c_52 (by decide)) (fun _ => ?_)
    refine q_iconst C (nI 0) dX3_sign_55 (by decide) ?_
    refine hR _ _ _ _ _ _ _ ?_ rfl (Nat.le_of_ble_eq_true rfl) (Nat.le_of_ble_eq_true rfl) dX3_sign_56
    refine ⟨?_, rfl⟩
    exact q_mres_1 (q_c2_1 b_5) (by decide) rfl
abbrev rX3_apart : Room := { frames := 3, cells := 0, slots := 0, locals := 59 }
theorem iX3_apart_X3 : ∀ w ∈ u_ws RX3 TX3 26, w ∈ wsX3_apart := by decide +kernel
set_option maxHeartbeats 4000000 in
set_option maxRecDepth 100000 in
/-- apart, the reference -/
theorem kX3_apart (l : Launch) (σ : q_E) (V : q_V) (G : q_G) {n : Nat} (hn2 : n ≤ 12) (hp : q_mpats V n) (hbl : q_mbelts V n) (how : ∀ b, b < 20 → ∃ a, a < 7 ∧ V 79 b = nI a) (x : Int32) : q_Mi l yX3_apart wsX3_apart rX3_apart σ [.ref (σ.2.1 19), .int x] V G (fun r V' G' => q_mres V (q_c2 (q_isb V x) (∀ k, k < 8 → V 69 (8 * q_n (V 79 (q_n x)) + k) + nI (q_mneeds V (q_n (V 78 (q_n x))) (nI k)) ≤ nI 100000)) (nI (q_n (V 73 (q_n (V 78 (q_n x)))) * q_n (V 74 (q_n (V 78 (q_n x)))))) (q_up (q_addh (q_up V 19 0 (nI 0)) (q_n (V 79 (q_n x))) (fun k => nI (q_mneeds V (q_n (V 78 (q_n x))) (nI k))) 8) 78 (q_n x) (-1)) r V' ∧ G = G') 0 0 := by
  refine q_Mi_of (cc := cX3_apart) (maxL := 5) (lv := [(0, .ref (σ.2.1 19)), (1, .int x)]) (by decide +kernel) rfl (Nat.le_of_ble_eq_true rfl) rfl ?_
  intro p e s m args below meth c Q C hR
  refine q_aload_n C dX3_apart_0 rfl 0 rfl ?_
  refine q_aload_n C dX3_apart_1 rfl 0 rfl ?_
  refine q_iload_n C dX3_apart_2 rfl 1 rfl ?_
  refine q_callVi C (As := [.int x]) (rest := [.ref (σ.2.1 19)]) (k := 19) (by omega) q_enMO rfl rfl (kX3_isBelt l σ V G x) 1 gX3_apart_X3_isBelt rfl rfl rfl (by decide +kernel) ⟨Nat.le_of_ble_eq_true rfl, Nat.le_of_ble_eq_true rfl⟩ dX3_apart_3 rfl (Nat.le_of_ble_eq_true rfl) ⟨Nat.le_of_ble_eq_true rfl, Nat.le_of_ble_eq_true rfl⟩ (fun r_3 V_1 G_2 hq_3 => ?_)
  obtain ⟨hs_3, rfl, rfl⟩ := hq_3
  refine q_if_eq C 13 dX3_apart_6 (by decide) (fun c_6 => ?_) (fun c_6 => ?_)
  · skip
    have b_3 := (q_is_eq hs_3).mp c_6
    refine q_iconst C (nI 1) dX3_apart_13 (by decide) ?_
    refine q_put C (k := 19) (fi := 0) tyX3 tyX3_ok nmX3 (by omega) q_enMO rfl iX3_apart_X3 (by decide) (by decide +kernel) rfl rfl (by decide +kernel) (Nat.le_of_ble_eq_true rfl) (q_enMO |>.trans (by simp [q_up])) dX3_apart_14 ?_
    refine q_aload_n C dX3_apart_17 rfl 0 rfl ?_
    refine q_get C (k := 19) (fi := 0) (.int (nI 1)) (by omega) q_enMO rfl iX3_apart_X3 (by decide) (by decide +kernel) rfl (congrArg (fun z => some (Value.int z)) (q_up_self _ _ _ _)) dX3_apart_18 ?_
    refine q_if_le C 26 dX3_apart_21 (by decide) (fun c_21 => absurd c_21 (by decide)) (fun _ => ?_)
    refine q_iconst C (nI 0) dX3_apart_24 (by decide) ?_
    refine hR _ _ _ _ _ _ _ ?_ rfl (Nat.le_of_ble_eq_true rfl) (Nat.le_of_ble_eq_true rfl) dX3_apart_25
    refine ⟨?_, rfl⟩
    exact q_mres_1 (q_c2_1 b_3) (by decide) rfl
  · skip
    have b_3 := (q_is_ne hs_3).mp c_6
    obtain ⟨b, hb, rfl, hb9⟩ := b_3
    obtain ⟨pa, hpa, hpe⟩ := (hbl b hb).resolve_left hb9
    obtain ⟨ow, how7, howe⟩ := how b hb
    have hdm := (hp pa hpa)
    obtain ⟨hdw, hdh, hd1, hd2, hd3, hd4⟩ := id hdm
    refine q_iconst C (nI 0) dX3_apart_9 (by decide) ?_
    refine q_goto C 14 dX3_apart_10 (by decide) ?_
    refine q_put C (k := 19) (fi := 0) tyX3 tyX3_ok nmX3 (by omega) q_enMO rfl iX3_apart_X3 (by decide) (by decide +kernel) rfl rfl (by decide +kernel) (Nat.le_of_ble_eq_true rfl) (q_enMO |>.trans (by simp [q_up])) dX3_apart_14 ?_
    refine q_aload_n C dX3_apart_17 rfl 0 rfl ?_
    refine q_get C (k := 19) (fi := 0) (.int (nI 0)) (by omega) q_enMO rfl iX3_apart_X3 (by decide) (by decide +kernel) rfl (congrArg (fun z => some (Value.int z)) (q_up_self _ _ _ _)) dX3_apart_18 ?_
    refine q_if_le C 26 dX3_apart_21 (by decide) (fun _ => ?_) (fun c_21 => absurd c_21 (by decide))
    refine q_aload_n C dX3_apart_26 rfl 0 rfl ?_
    refine q_get C (k := 19) (fi := 13) (.ref (σ.2.1 78)) (by omega) q_enMO rfl iX3_apart_X3 (by decide) (by decide +kernel) rfl rfl dX3_apart_27 ?_
    refine q_iload_n C dX3_apart_30 rfl 1 rfl ?_
    refine q_ialdN C (k := 78) (n := 20) ⟨by decide, by decide, by decide⟩ (by omega) (by decide) dX3_apart_31 ?_
    refine q_stk (st' := [.int (V 78 b)]) (congrArg (fun z => Value.int z :: []) (q_up_ne _ _ (by omega))) ?_
    refine q_stk (st' := [.int (nI pa)]) (congrArg (fun z => Value.int z :: []) (hpe)) ?_
    refine q_istore_n C [(2, .int (nI pa)), (0, .ref (σ.2.1 19)), (1, .int (nI b))] dX3_apart_32 rfl (by decide) rfl ?_
    refine q_iconst C (nI 1) dX3_apart_33 (by decide) ?_
    refine q_istore_n C [(3, .int (nI 1)), (2, .int (nI pa)), (0, .ref (σ.2.1 19)), (1, .int (nI b))] dX3_apart_34 rfl (by decide) rfl ?_
    refine q_iconst C (nI 0) dX3_apart_35 (by decide) ?_
    refine q_istore C [(4, .int (nI 0)), (3, .int (nI 1)), (2, .int (nI pa)), (0, .ref (σ.2.1 19)), (1, .int (nI b))] dX3_apart_36 (by decide) rfl ?_
    have L_3 : ∀ (nL_3 : Nat) (j : Nat) (z : Int32) (hj : j ≤ 8) (hz : (z = 1 ∧ ∀ k, k < j → V 69 (8 * ow + k) + nI (q_mneeds V pa (nI k)) ≤ nI 100000) ∨ (z = 0 ∧ ¬ ∀ k, k < 8 → V 69 (8 * ow + k) + nI (q_mneeds V pa (nI k)) ≤ nI 100000)), 8 - j < nL_3 → q_W σ p l e rX3_apart s m args below meth c Q 5 0 0 (q_up V 19 0 (nI 0)) G [(3, .int z), (4, .int (nI j)), (0, .ref (σ.2.1 19)), (1, .int (nI b)), (2, .int (nI pa))] 38 [] := by
      intro nL_3
      induction nL_3 with
      | zero => intro j z hj hz h; exact absurd h (Nat.not_lt_zero _)
      | succ nL_3 ihL_3 =>
        intro j z hj hz hmL_3
        refine q_iload C dX3_apart_38 1 rfl ?_
        refine q_bipush C (nI 8) dX3_apart_40 (by decide) ?_
        refine q_icmp_geN C 91 dX3_apart_42 (by decide) (by omega) (by omega) (fun c_42 => ?_) (fun c_42 => ?_)
        · skip
          refine q_aload_n C dX3_apart_91 rfl 2 rfl ?_
          refine q_iload_n C dX3_apart_92 rfl 0 rfl ?_
          refine q_if_eq C 100 dX3_apart_93 (by decide) (fun c_93 => ?_) (fun c_93 => ?_)
          · skip
            have hz4 := hz.resolve_left (fun q => by rw [q.1] at c_93; exact absurd c_93 (by decide))
            refine q_iconst C (nI 2) dX3_apart_100 (by decide) ?_
            refine q_put C (k := 19) (fi := 0) tyX3 tyX3_ok nmX3 (by omega) q_enMO rfl iX3_apart_X3 (by decide) (by decide +kernel) rfl rfl (by decide +kernel) (Nat.le_of_ble_eq_true rfl) (q_enMO |>.trans (by simp [q_up])) dX3_apart_101 ?_
            refine q_aload_n C dX3_apart_104 rfl 2 rfl ?_
            refine q_get C (k := 19) (fi := 0) (.int (nI 2)) (by omega) q_enMO rfl iX3_apart_X3 (by decide) (by decide +kernel) rfl (congrArg (fun z => some (Value.int z)) (q_up_self _ _ _ _)) dX3_apart_105 ?_
            refine q_if_le C 113 dX3_apart_108 (by decide) (fun c_108 => absurd c_108 (by decide)) (fun _ => ?_)
            refine q_iconst C (nI 0) dX3_apart_111 (by decide) ?_
            refine hR _ _ _ _ _ _ _ ?_ rfl (Nat.le_of_ble_eq_true rfl) (Nat.le_of_ble_eq_true rfl) dX3_apart_112
            rw [q_up_up]
            refine ⟨?_, rfl⟩
            rw [q_n_nI (n := b) (by omega), hpe, howe, q_n_nI (n := pa) (by omega), q_n_nI (n := ow) (by omega)]
            exact q_mres_1 (q_c2_2 ⟨b, hb, rfl, hb9⟩ hz4.2) (by decide) rfl
          · skip
            have hz4 := hz.resolve_right (fun q => c_93 q.1)
            refine q_iconst C (nI 0) dX3_apart_96 (by decide) ?_
            refine q_goto C 101 dX3_apart_97 (by decide) ?_
            refine q_put C (k := 19) (fi := 0) tyX3 tyX3_ok nmX3 (by omega) q_enMO rfl iX3_apart_X3 (by decide) (by decide +kernel) rfl rfl (by decide +kernel) (Nat.le_of_ble_eq_true rfl) (q_enMO |>.trans (by simp [q_up])) dX3_apart_101 ?_
            refine q_aload_n C dX3_apart_104 rfl 2 rfl ?_
            refine q_get C (k := 19) (fi := 0) (.int (nI 0)) (by omega) q_enMO rfl iX3_apart_X3 (by decide) (by decide +kernel) rfl (congrArg (fun z => some (Value.int z)) (q_up_self _ _ _ _)) dX3_apart_105 ?_
            refine q_if_le C 113 dX3_apart_108 (by decide) (fun _ => ?_) (fun c_108 => absurd c_108 (by decide))
            refine q_iconst C (nI 0) dX3_apart_113 (by decide) ?_
            refine q_istore C [(4, .int (nI 0)), (3, .int z), (0, .ref (σ.2.1 19)), (1, .int (nI b)), (2, .int (nI pa))] dX3_apart_114 (by decide) rfl ?_
            have L_4 : ∀ (nL_4 : Nat) (j : Nat) (hj : j ≤ 8), 8 - j < nL_4 → q_W σ p l e rX3_apart s m args below meth c Q 5 0 0 (q_addh (q_up V 19 0 (nI 0)) ow (fun k => nI (q_mneeds V pa (nI k))) j) G [(4, .int (nI j)), (0, .ref (σ.2.1 19)), (1, .int (nI b)), (2, .int (nI pa))] 116 [] := by
              intro nL_4
              induction nL_4 with
              | zero => intro j hj h; exact absurd h (Nat.not_lt_zero _)
              | succ nL_4 ihL_4 =>
                intro j hj hmL_4
                refine q_iload C dX3_apart_116 0 rfl ?_
                refine q_bipush C (nI 8) dX3_apart_118 (by decide) ?_
                refine q_icmp_geN C 156 dX3_apart_120 (by decide) (by omega) (by omega) (fun c_120 => ?_) (fun c_120 => ?_)
                · skip
                  refine q_aload_n C dX3_apart_156 rfl 1 rfl ?_
                  refine q_get C (k := 19) (fi := 13) (.ref (σ.2.1 78)) (by omega) q_enMO rfl iX3_apart_X3 (by decide) (by decide +kernel) rfl rfl dX3_apart_157 ?_
                  refine q_iload_n C dX3_apart_160 rfl 2 rfl ?_
                  refine q_iconst C ((-1)) dX3_apart_161 (by decide) ?_
                  refine q_iastN C (k := 78) (n := 20) ⟨by decide, by decide, by decide⟩ (by omega) (by decide) dX3_apart_162 ?_
                  refine q_aload_n C dX3_apart_163 rfl 1 rfl ?_
                  refine q_get C (k := 19) (fi := 8) (.ref (σ.2.1 73)) (by omega) q_enMO rfl iX3_apart_X3 (by decide) (by decide +kernel) rfl rfl dX3_apart_164 ?_
                  refine q_iload_n C dX3_apart_167 rfl 3 rfl ?_
                  refine q_ialdN C (k := 73) (n := 12) ⟨by decide, by decide, by decide⟩ (by omega) (by decide) dX3_apart_168 ?_
                  refine q_stk (st' := [.int ((q_addh (q_up V 19 0 (nI 0)) ow (fun k => nI (q_mneeds V pa (nI k))) j) 73 pa)]) (congrArg (fun z => Value.int z :: []) (q_up_ne _ _ (by omega))) ?_
                  refine q_stk (st' := [.int (nI (q_n (V 73 pa)))]) (congrArg (fun z => Value.int z :: []) (hdw)) ?_
                  refine q_aload_n C dX3_apart_169 rfl 1 rfl ?_
                  refine q_get C (k := 19) (fi := 9) (.ref (σ.2.1 74)) (by omega) q_enMO rfl iX3_apart_X3 (by decide) (by decide +kernel) rfl rfl dX3_apart_170 ?_
                  refine q_iload_n C dX3_apart_173 rfl 3 rfl ?_
                  refine q_ialdN C (k := 74) (n := 12) ⟨by decide, by decide, by decide⟩ (by omega) (by decide) dX3_apart_174 ?_
                  refine q_stk (st' := [.int ((q_addh (q_up V 19 0 (nI 0)) ow (fun k => nI (q_mneeds V pa (nI k))) j) 74 pa), .int (nI (q_n (V 73 pa)))]) (congrArg (fun z => Value.int z :: [.int (nI (q_n (V 73 pa)))]) (q_up_ne _ _ (by omega))) ?_
                  refine q_stk (st' := [.int (nI (q_n (V 74 pa))), .int (nI (q_n (V 73 pa)))]) (congrArg (fun z => Value.int z :: [.int (nI (q_n (V 73 pa)))]) (hdh)) ?_
                  refine q_imulN C dX3_apart_175  ?_
                  refine hR _ _ _ _ _ _ _ ?_ rfl (Nat.le_of_ble_eq_true rfl) (Nat.le_of_ble_eq_true rfl) dX3_apart_176
                  obtain rfl : j = 8 := by omega
                  refine ⟨?_, rfl⟩
                  rw [q_n_nI (n := b) (by omega), hpe, howe, q_n_nI (n := pa) (by omega), q_n_nI (n := ow) (by omega)]
                  exact q_mres_0 (q_c2_0 ⟨b, hb, rfl, hb9⟩ (fun k hk => hz4.2 k (by omega))) rfl rfl
                · skip
                  refine q_aload_n C dX3_apart_123 rfl 1 rfl ?_
                  refine q_get C (k := 19) (fi := 1) (.ref (σ.2.1 69)) (by omega) q_enMO rfl iX3_apart_X3 (by decide) (by decide +kernel) rfl rfl dX3_apart_124 ?_
                  refine q_bipush C (nI 8) dX3_apart_127 (by decide) ?_
                  refine q_aload_n C dX3_apart_129 rfl 1 rfl ?_
                  refine q_get C (k := 19) (fi := 14) (.ref (σ.2.1 79)) (by omega) q_enMO rfl iX3_apart_X3 (by decide) (by decide +kernel) rfl rfl dX3_apart_130 ?_
                  refine q_iload_n C dX3_apart_133 rfl 2 rfl ?_
                  refine q_ialdN C (k := 79) (n := 20) ⟨by decide, by decide, by decide⟩ (by omega) (by decide) dX3_apart_134 ?_
                  refine q_stk (st' := [.int (nI ow), .int (nI 8), .ref (σ.2.1 69)]) (congrArg (fun z => Value.int z :: [.int (nI 8), .ref (σ.2.1 69)]) (howe)) ?_
                  refine q_imulN C dX3_apart_135  ?_
                  refine q_iload C dX3_apart_136 0 rfl ?_
                  refine q_iaddN C dX3_apart_138  ?_
                  refine q_dup2 C dX3_apart_139 rfl rfl ?_
                  refine q_ialdN C (k := 69) (n := 56) ⟨by decide, by decide, by decide⟩ (by omega) (by decide) dX3_apart_140 ?_
                  refine q_aload_n C dX3_apart_141 rfl 1 rfl ?_
                  refine q_iload_n C dX3_apart_142 rfl 3 rfl ?_
                  refine q_iload C dX3_apart_143 0 rfl ?_
                  refine q_callVi C (As := [.int (nI pa), .int (nI j)]) (rest := [.int ((q_addh (q_up V 19 0 (nI 0)) ow (fun k => nI (q_mneeds V pa (nI k))) j) 69 ((8 * ow) + j)), .int (nI ((8 * ow) + j)), .ref (σ.2.1 69)]) (k := 19) (by omega) q_enMO rfl rfl (kX3_needsOf l σ (q_addh (q_up V 19 0 (nI 0)) ow (fun k => nI (q_mneeds V pa (nI k))) j) G (pa := pa) (by omega) (hp pa hpa) (nI j)) 2 gX3_apart_X3_needsOf rfl rfl rfl (by decide +kernel) ⟨Nat.le_of_ble_eq_true rfl, Nat.le_of_ble_eq_true rfl⟩ dX3_apart_145 rfl (Nat.le_of_ble_eq_true rfl) ⟨Nat.le_of_ble_eq_true rfl, Nat.le_of_ble_eq_true rfl⟩ (fun r_145 V_5 G_6 hq_145 => ?_)
                  obtain ⟨rfl, rfl, rfl⟩ := hq_145
                  refine q_iadd C dX3_apart_148 ?_
                  refine q_iastN C (k := 69) (n := 56) ⟨by decide, by decide, by decide⟩ (by omega) (by decide) dX3_apart_149 ?_
                  refine q_VG (V' := q_addh (q_up V 19 0 (nI 0)) ow (fun k => nI (q_mneeds V pa (nI k))) (j + 1)) (G' := G) (by exact q_addh_succ _ _ _ _) rfl ?_
                  refine q_iincN C [(4, .int (nI (j + 1))), (0, .ref (σ.2.1 19)), (1, .int (nI b)), (2, .int (nI pa))] dX3_apart_150 0 rfl (by decide) rfl ?_
                  refine q_goto C 116 dX3_apart_153 (by decide) ?_
                  refine q_sub (lv' := [(4, .int (nI (j + 1))), (0, .ref (σ.2.1 19)), (1, .int (nI b)), (2, .int (nI pa))]) [0, 1, 2, 3] rfl ?_
                  exact ihL_4 (j + 1) (by omega) (by omega)
            refine q_sub (lv' := [(4, .int (nI 0)), (0, .ref (σ.2.1 19)), (1, .int (nI b)), (2, .int (nI pa))]) [0, 2, 3, 4] rfl ?_
            refine q_VG (V' := q_addh (q_up V 19 0 (nI 0)) ow (fun k => nI (q_mneeds V pa (nI k))) 0) (G' := G) ((q_up_up _ _ _ _ _).trans (q_addh_0 _ _ _).symm) rfl ?_
            exact L_4 _ 0 (Nat.zero_le _) (Nat.lt_succ_self _)
        · skip
          refine q_iload_n C dX3_apart_45 rfl 0 rfl ?_
          refine q_if_eq C 83 dX3_apart_46 (by decide) (fun c_46 => ?_) (fun c_46 => ?_)
          · skip
            have hz3 := hz.resolve_left (fun q => by rw [q.1] at c_46; exact absurd c_46 (by decide))
            refine q_iconst C (nI 0) dX3_apart_83 (by decide) ?_
            refine q_istore_n C [(3, .int (nI 0)), (4, .int (nI j)), (0, .ref (σ.2.1 19)), (1, .int (nI b)), (2, .int (nI pa))] dX3_apart_84 rfl (by decide) rfl ?_
            refine q_iincN C [(4, .int (nI (j + 1))), (3, .int (nI 0)), (0, .ref (σ.2.1 19)), (1, .int (nI b)), (2, .int (nI pa))] dX3_apart_85 1 rfl (by decide) rfl ?_
            refine q_goto C 38 dX3_apart_88 (by decide) ?_
            refine q_sub (lv' := [(3, .int (nI 0)), (4, .int (nI (j + 1))), (0, .ref (σ.2.1 19)), (1, .int (nI b)), (2, .int (nI pa))]) [1, 0, 2, 3, 4] rfl ?_
            exact ihL_3 (j + 1) _ (by omega) (by first | exact Or.inr ⟨rfl, fun q => Int32.not_le.mpr c_76 (q j c_42)⟩ | exact Or.inr ⟨rfl, hz3.2⟩) (by omega)
          · skip
            have hz2 := hz.resolve_right (fun q => c_46 q.1)
            refine q_aload_n C dX3_apart_49 rfl 2 rfl ?_
            refine q_get C (k := 19) (fi := 1) (.ref (σ.2.1 69)) (by omega) q_enMO rfl iX3_apart_X3 (by decide) (by decide +kernel) rfl rfl dX3_apart_50 ?_
            refine q_bipush C (nI 8) dX3_apart_53 (by decide) ?_
            refine q_aload_n C dX3_apart_55 rfl 2 rfl ?_
            refine q_get C (k := 19) (fi := 14) (.ref (σ.2.1 79)) (by omega) q_enMO rfl iX3_apart_X3 (by decide) (by decide +kernel) rfl rfl dX3_apart_56 ?_
            refine q_iload_n C dX3_apart_59 rfl 3 rfl ?_
            refine q_ialdN C (k := 79) (n := 20) ⟨by decide, by decide, by decide⟩ (by omega) (by decide) dX3_apart_60 ?_
            refine q_stk (st' := [.int (V 79 b), .int (nI 8), .ref (σ.2.1 69)]) (congrArg (fun z => Value.int z :: [.int (nI 8), .ref (σ.2.1 69)]) (q_up_ne _ _ (by omega))) ?_
            refine q_stk (st' := [.int (nI ow), .int (nI 8), .ref (σ.2.1 69)]) (congrArg (fun z => Value.int z :: [.int (nI 8), .ref (σ.2.1 69)]) (howe)) ?_
            refine q_imulN C dX3_apart_61  ?_
            refine q_iload C dX3_apart_62 1 rfl ?_
            refine q_iaddN C dX3_apart_64  ?_
            refine q_ialdN C (k := 69) (n := 56) ⟨by decide, by decide, by decide⟩ (by omega) (by decide) dX3_apart_65 ?_
            refine q_stk (st' := [.int (V 69 ((8 * ow) + j))]) (congrArg (fun z => Value.int z :: []) (q_up_ne _ _ (by omega))) ?_
            refine q_aload_n C dX3_apart_66 rfl 2 rfl ?_
            refine q_iload_n C dX3_apart_67 rfl 4 rfl ?_
            refine q_iload C dX3_apart_68 1 rfl ?_
            refine q_callVi C (As := [.int (nI pa), .int (nI j)]) (rest := [.int (V 69 ((8 * ow) + j))]) (k := 19) (by omega) q_enMO rfl rfl (kX3_needsOf l σ (q_up V 19 0 (nI 0)) G (pa := pa) (by omega) (hp pa hpa) (nI j)) 2 gX3_apart_X3_needsOf rfl rfl rfl (by decide +kernel) ⟨Nat.le_of_ble_eq_true rfl, Nat.le_of_ble_eq_true rfl⟩ dX3_apart_70 rfl (Nat.le_of_ble_eq_true rfl) ⟨Nat.le_of_ble_eq_true rfl, Nat.le_of_ble_eq_true rfl⟩ (fun r_70 V_7 G_8 hq_70 => ?_)
            obtain ⟨rfl, rfl, rfl⟩ := hq_70
            refine q_iadd C dX3_apart_73 ?_
            refine q_ldc C (nI 100000) dX3_apart_74 (by decide +kernel) ?_
            refine q_icmp_gt C 83 dX3_apart_76 (by decide) (fun c_76 => ?_) (fun c_76 => ?_)
            · skip
              refine q_iconst C (nI 0) dX3_apart_83 (by decide) ?_
              refine q_istore_n C [(3, .int (nI 0)), (4, .int (nI j)), (0, .ref (σ.2.1 19)), (1, .int (nI b)), (2, .int (nI pa))] dX3_apart_84 rfl (by decide) rfl ?_
              refine q_iincN C [(4, .int (nI (j + 1))), (3, .int (nI 0)), (0, .ref (σ.2.1 19)), (1, .int (nI b)), (2, .int (nI pa))] dX3_apart_85 1 rfl (by decide) rfl ?_
              refine q_goto C 38 dX3_apart_88 (by decide) ?_
              refine q_sub (lv' := [(3, .int (nI 0)), (4, .int (nI (j + 1))), (0, .ref (σ.2.1 19)), (1, .int (nI b)), (2, .int (nI pa))]) [1, 0, 2, 3, 4] rfl ?_
              exact ihL_3 (j + 1) _ (by omega) (by first | exact Or.inr ⟨rfl, fun q => Int32.not_le.mpr c_76 (q j c_42)⟩ | exact Or.inr ⟨rfl, hz3.2⟩) (by omega)
            · skip
              refine q_iconst C (nI 1) dX3_apart_79 (by decide) ?_
              refine q_goto C 84 dX3_apart_80 (by decide) ?_
              refine q_istore_n C [(3, .int (nI 1)), (4, .int (nI j)), (0, .ref (σ.2.1 19)), (1, .int (nI b)), (2, .int (nI pa))] dX3_apart_84 rfl (by decide) rfl ?_
              refine q_iincN C [(4, .int (nI (j + 1))), (3, .int (nI 1)), (0, .ref (σ.2.1 19)), (1, .int (nI b)), (2, .int (nI pa))] dX3_apart_85 1 rfl (by decide) rfl ?_
              refine q_goto C 38 dX3_apart_88 (by decide) ?_
              refine q_sub (lv' := [(3, .int (nI 1)), (4, .int (nI (j + 1))), (0, .ref (σ.2.1 19)), (1, .int (nI b)), (2, .int (nI pa))]) [1, 0, 2, 3, 4] rfl ?_
              exact ihL_3 (j + 1) _ (by omega) (Or.inl ⟨rfl, lt_s hz2.2 (Int32.not_lt.mp c_76)⟩) (by omega)
    refine q_sub (lv' := [(3, .int (nI 1)), (4, .int (nI 0)), (0, .ref (σ.2.1 19)), (1, .int (nI b)), (2, .int (nI pa))]) [1, 0, 3, 4, 2] rfl ?_
    exact L_3 _ 0 1 (Nat.zero_le _) (Or.inl ⟨rfl, lt_0⟩) (Nat.lt_succ_self _)
abbrev rX3_weave : Room := { frames := 3, cells := 0, slots := 0, locals := 59 }
theorem iX3_weave_X3 : ∀ w ∈ u_ws RX3 TX3 26, w ∈ wsX3_weave := by decide +kernel
set_option maxHeartbeats 4000000 in
set_option maxRecDepth 100000 in
/-- weave, the reference -/
theorem kX3_weave (l : Launch) (σ : q_E) (V : q_V) (G : q_G) {n : Nat} (hn : V 19 7 = nI n) (hn2 : n ≤ 12) (hp : q_mpats V n) (hor : ∀ pa, pa < n → ∃ o, o < n ∧ V 77 pa = nI o) (hau : ∀ pa, pa < n → ∃ a, a < 7 ∧ V 76 pa = nI a) (x y : Int32) : q_Mi l yX3_weave wsX3_weave rX3_weave σ [.ref (σ.2.1 19), .int x, .int y] V G (fun r V' G' => (((q_c2 (q_ok 7 x ∧ q_ok n y) ((∃ b, b < 20 ∧ V 78 b = -1) ∧ ∀ k, k < 8 → nI (q_mneeds V (q_n y) (nI k)) ≤ V 69 (8 * q_n x + k))) = 0 ∧ ∃ kf, kf < 20 ∧ (∀ b, b < kf → ¬ V 78 b = -1) ∧ V 78 kf = -1 ∧ nI kf = r ∧ (q_up (q_subh (q_up (q_up (q_up V 19 0 (nI 0)) 78 kf y) 79 kf x) (q_n x) (fun k => nI (q_mneeds V (q_n y) (nI k))) 8) 80 (q_n (V 76 (q_n (V 77 (q_n y))))) (V 80 (q_n (V 76 (q_n (V 77 (q_n y))))) + nI 1)) = V') ∨ ((q_c2 (q_ok 7 x ∧ q_ok n y) ((∃ b, b < 20 ∧ V 78 b = -1) ∧ ∀ k, k < 8 → nI (q_mneeds V (q_n y) (nI k)) ≤ V 69 (8 * q_n x + k))) ≠ 0 ∧ q_up V 19 0 (nI (q_c2 (q_ok 7 x ∧ q_ok n y) ((∃ b, b < 20 ∧ V 78 b = -1) ∧ ∀ k, k < 8 → nI (q_mneeds V (q_n y) (nI k)) ≤ V 69 (8 * q_n x + k)))) = V')) ∧ G = G') 0 0 := by
  refine q_Mi_of (cc := cX3_weave) (maxL := 6) (lv := [(0, .ref (σ.2.1 19)), (1, .int x), (2, .int y)]) (by decide +kernel) rfl (Nat.le_of_ble_eq_true rfl) rfl ?_
  intro p e s m args below meth c Q C hR
  refine q_aload_n C dX3_weave_0 rfl 0 rfl ?_
  refine q_iload_n C dX3_weave_1 rfl 1 rfl ?_
  refine q_callSi C (As := [.int x]) (rest := [.ref (σ.2.1 19)]) (kX3_isPerson l σ V G x) 1 gX3_weave_X3_isPerson rfl rfl rfl (by decide +kernel) ⟨Nat.le_of_ble_eq_true rfl, Nat.le_of_ble_eq_true rfl⟩ dX3_weave_2 rfl (Nat.le_of_ble_eq_true rfl) ⟨Nat.le_of_ble_eq_true rfl, Nat.le_of_ble_eq_true rfl⟩ (fun r_2 V_1 G_2 hq_2 => ?_)
  obtain ⟨hs_2, rfl, rfl⟩ := hq_2
  refine q_if_eq C 20 dX3_weave_5 (by decide) (fun c_5 => ?_) (fun c_5 => ?_)
  · skip
    have b_2 := (q_is_eq hs_2).mp c_5
    refine q_iconst C (nI 1) dX3_weave_20 (by decide) ?_
    refine q_put C (k := 19) (fi := 0) tyX3 tyX3_ok nmX3 (by omega) q_enMO rfl iX3_weave_X3 (by decide) (by decide +kernel) rfl rfl (by decide +kernel) (Nat.le_of_ble_eq_true rfl) (q_enMO |>.trans (by simp [q_up])) dX3_weave_21 ?_
    refine q_aload_n C dX3_weave_24 rfl 0 rfl ?_
    refine q_get C (k := 19) (fi := 0) (.int (nI 1)) (by omega) q_enMO rfl iX3_weave_X3 (by decide) (by decide +kernel) rfl (congrArg (fun z => some (Value.int z)) (q_up_self _ _ _ _)) dX3_weave_25 ?_
    refine q_if_le C 33 dX3_weave_28 (by decide) (fun c_28 => absurd c_28 (by decide)) (fun _ => ?_)
    refine q_iconst C (nI 0) dX3_weave_31 (by decide) ?_
    refine hR _ _ _ _ _ _ _ ?_ rfl (Nat.le_of_ble_eq_true rfl) (Nat.le_of_ble_eq_true rfl) dX3_weave_32
    refine ⟨Or.inr ?_, rfl⟩
    have e9 : (q_c2 (q_ok 7 x ∧ q_ok n y) ((∃ b, b < 20 ∧ V 78 b = -1) ∧ ∀ k, k < 8 → nI (q_mneeds V (q_n y) (nI k)) ≤ V 69 (8 * q_n x + k))) = 1 := by first | exact q_c2_1 (fun q => b_2 q.1) | exact q_c2_1 (fun q => b_10 q.2)
    rw [e9]
    exact ⟨by decide, rfl⟩
  · skip
    have b_2 := (q_is_ne hs_2).mp c_5
    refine q_aload_n C dX3_weave_8 rfl 0 rfl ?_
    refine q_iload_n C dX3_weave_9 rfl 2 rfl ?_
    refine q_callVi C (As := [.int y]) (rest := [.ref (σ.2.1 19)]) (k := 19) (by omega) q_enMO rfl rfl (kX3_isPattern l σ V G hn hn2 y) 1 gX3_weave_X3_isPattern rfl rfl rfl (by decide +kernel) ⟨Nat.le_of_ble_eq_true rfl, Nat.le_of_ble_eq_true rfl⟩ dX3_weave_10 rfl (Nat.le_of_ble_eq_true rfl) ⟨Nat.le_of_ble_eq_true rfl, Nat.le_of_ble_eq_true rfl⟩ (fun r_10 V_3 G_4 hq_10 => ?_)
    obtain ⟨hs_10, rfl, rfl⟩ := hq_10
    refine q_if_eq C 20 dX3_weave_13 (by decide) (fun c_13 => ?_) (fun c_13 => ?_)
    · skip
      have b_10 := (q_is_eq hs_10).mp c_13
      refine q_iconst C (nI 1) dX3_weave_20 (by decide) ?_
      refine q_put C (k := 19) (fi := 0) tyX3 tyX3_ok nmX3 (by omega) q_enMO rfl iX3_weave_X3 (by decide) (by decide +kernel) rfl rfl (by decide +kernel) (Nat.le_of_ble_eq_true rfl) (q_enMO |>.trans (by simp [q_up])) dX3_weave_21 ?_
      refine q_aload_n C dX3_weave_24 rfl 0 rfl ?_
      refine q_get C (k := 19) (fi := 0) (.int (nI 1)) (by omega) q_enMO rfl iX3_weave_X3 (by decide) (by decide +kernel) rfl (congrArg (fun z => some (Value.int z)) (q_up_self _ _ _ _)) dX3_weave_25 ?_
      refine q_if_le C 33 dX3_weave_28 (by decide) (fun c_28 => absurd c_28 (by decide)) (fun _ => ?_)
      refine q_iconst C (nI 0) dX3_weave_31 (by decide) ?_
      refine hR _ _ _ _ _ _ _ ?_ rfl (Nat.le_of_ble_eq_true rfl) (Nat.le_of_ble_eq_true rfl) dX3_weave_32
      refine ⟨Or.inr ?_, rfl⟩
      have e9 : (q_c2 (q_ok 7 x ∧ q_ok n y) ((∃ b, b < 20 ∧ V 78 b = -1) ∧ ∀ k, k < 8 → nI (q_mneeds V (q_n y) (nI k)) ≤ V 69 (8 * q_n x + k))) = 1 := by first | exact q_c2_1 (fun q => b_2 q.1) | exact q_c2_1 (fun q => b_10 q.2)
      rw [e9]
      exact ⟨by decide, rfl⟩
    · skip
      have b_10 := (q_is_ne hs_10).mp c_13
      obtain ⟨a, ha, rfl⟩ := b_2
      obtain ⟨pa, hpa, rfl⟩ := b_10
      obtain ⟨o9, ho9, hoe⟩ := hor pa hpa
      obtain ⟨au, hau7, haue⟩ := hau o9 ho9
      refine q_iconst C (nI 0) dX3_weave_16 (by decide) ?_
      refine q_goto C 21 dX3_weave_17 (by decide) ?_
      refine q_put C (k := 19) (fi := 0) tyX3 tyX3_ok nmX3 (by omega) q_enMO rfl iX3_weave_X3 (by decide) (by decide +kernel) rfl rfl (by decide +kernel) (Nat.le_of_ble_eq_true rfl) (q_enMO |>.trans (by simp [q_up])) dX3_weave_21 ?_
      refine q_aload_n C dX3_weave_24 rfl 0 rfl ?_
      refine q_get C (k := 19) (fi := 0) (.int (nI 0)) (by omega) q_enMO rfl iX3_weave_X3 (by decide) (by decide +kernel) rfl (congrArg (fun z => some (Value.int z)) (q_up_self _ _ _ _)) dX3_weave_25 ?_
      refine q_if_le C 33 dX3_weave_28 (by decide) (fun _ => ?_) (fun c_28 => absurd c_28 (by decide))
      have J_5 : ∀ (z : Int32) (hz : (z = 1 ∧ (∃ b, b < 20 ∧ V 78 b = -1)) ∨ (z = 0 ∧ ¬ (∃ b, b < 20 ∧ V 78 b = -1))), q_W σ p l e rX3_weave s m args below meth c Q 6 0 0 (q_up V 19 0 (nI 0)) G [(3, .int z), (0, .ref (σ.2.1 19)), (1, .int (nI a)), (2, .int (nI pa))] 48 [] := by
        intro z hz
        refine q_iconst C (nI 0) dX3_weave_48 (by decide) ?_
        refine q_istore C [(4, .int (nI 0)), (3, .int z), (0, .ref (σ.2.1 19)), (1, .int (nI a)), (2, .int (nI pa))] dX3_weave_49 (by decide) rfl ?_
        have L_6 : ∀ (nL_6 : Nat) (j : Nat) (z : Int32) (hj : j ≤ 8) (hz : (z = 1 ∧ (∃ b, b < 20 ∧ V 78 b = -1) ∧ ∀ k, k < j → nI (q_mneeds V pa (nI k)) ≤ V 69 (8 * a + k)) ∨ (z = 0 ∧ ¬ ((∃ b, b < 20 ∧ V 78 b = -1) ∧ ∀ k, k < 8 → nI (q_mneeds V pa (nI k)) ≤ V 69 (8 * a + k)))), 8 - j < nL_6 → q_W σ p l e rX3_weave s m args below meth c Q 6 0 0 (q_up V 19 0 (nI 0)) G [(3, .int z), (4, .int (nI j)), (0, .ref (σ.2.1 19)), (1, .int (nI a)), (2, .int (nI pa))] 51 [] := by
          intro nL_6
          induction nL_6 with
          | zero => intro j z hj hz h; exact absurd h (Nat.not_lt_zero _)
          | succ nL_6 ihL_6 =>
            intro j z hj hz hmL_6
            refine q_iload C dX3_weave_51 1 rfl ?_
            refine q_bipush C (nI 8) dX3_weave_53 (by decide) ?_
            refine q_icmp_geN C 96 dX3_weave_55 (by decide) (by omega) (by omega) (fun c_55 => ?_) (fun c_55 => ?_)
            · skip
              refine q_aload_n C dX3_weave_96 rfl 2 rfl ?_
              refine q_iload_n C dX3_weave_97 rfl 0 rfl ?_
              refine q_if_eq C 105 dX3_weave_98 (by decide) (fun c_98 => ?_) (fun c_98 => ?_)
              · skip
                have hz4 := hz.resolve_left (fun q => by rw [q.1] at c_98; exact absurd c_98 (by decide))
                refine q_iconst C (nI 2) dX3_weave_105 (by decide) ?_
                refine q_put C (k := 19) (fi := 0) tyX3 tyX3_ok nmX3 (by omega) q_enMO rfl iX3_weave_X3 (by decide) (by decide +kernel) rfl rfl (by decide +kernel) (Nat.le_of_ble_eq_true rfl) (q_enMO |>.trans (by simp [q_up])) dX3_weave_106 ?_
                refine q_aload_n C dX3_weave_109 rfl 2 rfl ?_
                refine q_get C (k := 19) (fi := 0) (.int (nI 2)) (by omega) q_enMO rfl iX3_weave_X3 (by decide) (by decide +kernel) rfl (congrArg (fun z => some (Value.int z)) (q_up_self _ _ _ _)) dX3_weave_110 ?_
                refine q_if_le C 118 dX3_weave_113 (by decide) (fun c_113 => absurd c_113 (by decide)) (fun _ => ?_)
                refine q_iconst C (nI 0) dX3_weave_116 (by decide) ?_
                refine hR _ _ _ _ _ _ _ ?_ rfl (Nat.le_of_ble_eq_true rfl) (Nat.le_of_ble_eq_true rfl) dX3_weave_117
                rw [q_up_up]
                refine ⟨Or.inr ?_, rfl⟩
                rw [q_n_nI (n := a) (by omega), q_n_nI (n := pa) (by omega)]
                rw [q_c2_2 ⟨q_ok_nI ha, q_ok_nI hpa⟩ hz4.2]
                exact ⟨by decide, rfl⟩
              · skip
                have hz4 := hz.resolve_right (fun q => c_98 q.1)
                refine q_iconst C (nI 0) dX3_weave_101 (by decide) ?_
                refine q_goto C 106 dX3_weave_102 (by decide) ?_
                refine q_put C (k := 19) (fi := 0) tyX3 tyX3_ok nmX3 (by omega) q_enMO rfl iX3_weave_X3 (by decide) (by decide +kernel) rfl rfl (by decide +kernel) (Nat.le_of_ble_eq_true rfl) (q_enMO |>.trans (by simp [q_up])) dX3_weave_106 ?_
                refine q_aload_n C dX3_weave_109 rfl 2 rfl ?_
                refine q_get C (k := 19) (fi := 0) (.int (nI 0)) (by omega) q_enMO rfl iX3_weave_X3 (by decide) (by decide +kernel) rfl (congrArg (fun z => some (Value.int z)) (q_up_self _ _ _ _)) dX3_weave_110 ?_
                refine q_if_le C 118 dX3_weave_113 (by decide) (fun _ => ?_) (fun c_113 => absurd c_113 (by decide))
                refine q_aload_n C dX3_weave_118 rfl 2 rfl ?_
                refine q_callVi C (As := []) (rest := []) (k := 19) (by omega) q_enMO rfl rfl (kX3_freeBelt l σ (q_up (q_up V 19 0 (nI 0)) 19 0 (nI 0)) G) 0 gX3_weave_X3_freeBelt rfl rfl rfl (by decide +kernel) ⟨Nat.le_of_ble_eq_true rfl, Nat.le_of_ble_eq_true rfl⟩ dX3_weave_119 rfl (Nat.le_of_ble_eq_true rfl) ⟨Nat.le_of_ble_eq_true rfl, Nat.le_of_ble_eq_true rfl⟩ (fun r_119 V_7 G_8 hq_119 => ?_)
                obtain ⟨⟨kf_119, hf1_119, hf2_119, hf3_119, rfl⟩, rfl, rfl⟩ := hq_119
                have hk20 : kf_119 < 20 := Nat.lt_of_not_le fun z => by obtain ⟨b, hb, e⟩ := hz4.2.1; exact hf2_119 b (by omega) e
                refine q_istore C [(4, .int (nI kf_119)), (3, .int z), (0, .ref (σ.2.1 19)), (1, .int (nI a)), (2, .int (nI pa))] dX3_weave_122 (by decide) rfl ?_
                refine q_aload_n C dX3_weave_124 rfl 2 rfl ?_
                refine q_get C (k := 19) (fi := 13) (.ref (σ.2.1 78)) (by omega) q_enMO rfl iX3_weave_X3 (by decide) (by decide +kernel) rfl rfl dX3_weave_125 ?_
                refine q_iload C dX3_weave_128 0 rfl ?_
                refine q_iload_n C dX3_weave_130 rfl 4 rfl ?_
                refine q_iastN C (k := 78) (n := 20) ⟨by decide, by decide, by decide⟩ (by omega) (by decide) dX3_weave_131 ?_
                refine q_aload_n C dX3_weave_132 rfl 2 rfl ?_
                refine q_get C (k := 19) (fi := 14) (.ref (σ.2.1 79)) (by omega) q_enMO rfl iX3_weave_X3 (by decide) (by decide +kernel) rfl rfl dX3_weave_133 ?_
                refine q_iload C dX3_weave_136 0 rfl ?_
                refine q_iload_n C dX3_weave_138 rfl 3 rfl ?_
                refine q_iastN C (k := 79) (n := 20) ⟨by decide, by decide, by decide⟩ (by omega) (by decide) dX3_weave_139 ?_
                refine q_iconst C (nI 0) dX3_weave_140 (by decide) ?_
                refine q_istore C [(5, .int (nI 0)), (4, .int (nI kf_119)), (3, .int z), (0, .ref (σ.2.1 19)), (1, .int (nI a)), (2, .int (nI pa))] dX3_weave_141 (by decide) rfl ?_
                have L_9 : ∀ (nL_9 : Nat) (j : Nat) (hj : j ≤ 8), 8 - j < nL_9 → q_W σ p l e rX3_weave s m args below meth c Q 6 0 0 (q_subh (q_up (q_up (q_up V 19 0 (nI 0)) 78 kf_119 (nI pa)) 79 kf_119 (nI a)) a (fun k => nI (q_mneeds V pa (nI k))) j) G [(5, .int (nI j)), (0, .ref (σ.2.1 19)), (1, .int (nI a)), (2, .int (nI pa)), (4, .int (nI kf_119))] 143 [] := by
                  intro nL_9
                  induction nL_9 with
                  | zero => intro j hj h; exact absurd h (Nat.not_lt_zero _)
                  | succ nL_9 ihL_9 =>
                    intro j hj hmL_9
                    refine q_iload C dX3_weave_143 0 rfl ?_
                    refine q_bipush C (nI 8) dX3_weave_145 (by decide) ?_
                    refine q_icmp_geN C 178 dX3_weave_147 (by decide) (by omega) (by omega) (fun c_147 => ?_) (fun c_147 => ?_)
                    · skip
                      refine q_aload_n C dX3_weave_178 rfl 1 rfl ?_
                      refine q_get C (k := 19) (fi := 15) (.ref (σ.2.1 80)) (by omega) q_enMO rfl iX3_weave_X3 (by decide) (by decide +kernel) rfl rfl dX3_weave_179 ?_
                      refine q_aload_n C dX3_weave_182 rfl 1 rfl ?_
                      refine q_get C (k := 19) (fi := 11) (.ref (σ.2.1 76)) (by omega) q_enMO rfl iX3_weave_X3 (by decide) (by decide +kernel) rfl rfl dX3_weave_183 ?_
                      refine q_aload_n C dX3_weave_186 rfl 1 rfl ?_
                      refine q_get C (k := 19) (fi := 12) (.ref (σ.2.1 77)) (by omega) q_enMO rfl iX3_weave_X3 (by decide) (by decide +kernel) rfl rfl dX3_weave_187 ?_
                      refine q_iload_n C dX3_weave_190 rfl 3 rfl ?_
                      refine q_ialdN C (k := 77) (n := 12) ⟨by decide, by decide, by decide⟩ (by omega) (by decide) dX3_weave_191 ?_
                      refine q_stk (st' := [.int (nI o9), .ref (σ.2.1 76), .ref (σ.2.1 80)]) (congrArg (fun z => Value.int z :: [.ref (σ.2.1 76), .ref (σ.2.1 80)]) (hoe)) ?_
                      refine q_ialdN C (k := 76) (n := 12) ⟨by decide, by decide, by decide⟩ (by omega) (by decide) dX3_weave_192 ?_
                      refine q_stk (st' := [.int (nI au), .ref (σ.2.1 80)]) (congrArg (fun z => Value.int z :: [.ref (σ.2.1 80)]) (haue)) ?_
                      refine q_dup2 C dX3_weave_193 rfl rfl ?_
                      refine q_ialdN C (k := 80) (n := 7) ⟨by decide, by decide, by decide⟩ (by omega) (by decide) dX3_weave_194 ?_
                      refine q_iconst C (nI 1) dX3_weave_195 (by decide) ?_
                      refine q_iadd C dX3_weave_196 ?_
                      refine q_iastN C (k := 80) (n := 7) ⟨by decide, by decide, by decide⟩ (by omega) (by decide) dX3_weave_197 ?_
                      refine q_iload C dX3_weave_198 4 rfl ?_
                      refine hR _ _ _ _ _ _ _ ?_ rfl (Nat.le_of_ble_eq_true rfl) (Nat.le_of_ble_eq_true rfl) dX3_weave_200
                      obtain rfl : j = 8 := by omega
                      refine ⟨Or.inl ?_, rfl⟩
                      rw [q_n_nI (n := a) (by omega), q_n_nI (n := pa) (by omega), hoe, q_n_nI (n := o9) (by omega), haue, q_n_nI (n := au) (by omega)]
                      exact ⟨q_c2_0 ⟨q_ok_nI ha, q_ok_nI hpa⟩ ⟨hz4.2.1, fun k hk => hz4.2.2 k (by omega)⟩, kf_119, hk20, hf2_119, hf3_119 hk20, rfl, rfl⟩
                    · skip
                      refine q_aload_n C dX3_weave_150 rfl 1 rfl ?_
                      refine q_get C (k := 19) (fi := 1) (.ref (σ.2.1 69)) (by omega) q_enMO rfl iX3_weave_X3 (by decide) (by decide +kernel) rfl rfl dX3_weave_151 ?_
                      refine q_bipush C (nI 8) dX3_weave_154 (by decide) ?_
                      refine q_iload_n C dX3_weave_156 rfl 2 rfl ?_
                      refine q_imulN C dX3_weave_157  ?_
                      refine q_iload C dX3_weave_158 0 rfl ?_
                      refine q_iaddN C dX3_weave_160  ?_
                      refine q_dup2 C dX3_weave_161 rfl rfl ?_
                      refine q_ialdN C (k := 69) (n := 56) ⟨by decide, by decide, by decide⟩ (by omega) (by decide) dX3_weave_162 ?_
                      refine q_aload_n C dX3_weave_163 rfl 1 rfl ?_
                      refine q_iload_n C dX3_weave_164 rfl 3 rfl ?_
                      refine q_iload C dX3_weave_165 0 rfl ?_
                      refine q_callVi C (As := [.int (nI pa), .int (nI j)]) (rest := [.int ((q_subh (q_up (q_up (q_up V 19 0 (nI 0)) 78 kf_119 (nI pa)) 79 kf_119 (nI a)) a (fun k => nI (q_mneeds V pa (nI k))) j) 69 ((8 * a) + j)), .int (nI ((8 * a) + j)), .ref (σ.2.1 69)]) (k := 19) (by omega) q_enMO rfl rfl (kX3_needsOf l σ (q_subh (q_up (q_up (q_up V 19 0 (nI 0)) 78 kf_119 (nI pa)) 79 kf_119 (nI a)) a (fun k => nI (q_mneeds V pa (nI k))) j) G (pa := pa) (by omega) (hp pa hpa) (nI j)) 2 gX3_weave_X3_needsOf rfl rfl rfl (by decide +kernel) ⟨Nat.le_of_ble_eq_true rfl, Nat.le_of_ble_eq_true rfl⟩ dX3_weave_167 rfl (Nat.le_of_ble_eq_true rfl) ⟨Nat.le_of_ble_eq_true rfl, Nat.le_of_ble_eq_true rfl⟩ (fun r_167 V_10 G_11 hq_167 => ?_)
                      obtain ⟨rfl, rfl, rfl⟩ := hq_167
                      refine q_isub C dX3_weave_170 ?_
                      refine q_iastN C (k := 69) (n := 56) ⟨by decide, by decide, by decide⟩ (by omega) (by decide) dX3_weave_171 ?_
                      refine q_VG (V' := q_subh (q_up (q_up (q_up V 19 0 (nI 0)) 78 kf_119 (nI pa)) 79 kf_119 (nI a)) a (fun k => nI (q_mneeds V pa (nI k))) (j + 1)) (G' := G) (by exact q_subh_succ _ _ _ _) rfl ?_
                      refine q_iincN C [(5, .int (nI (j + 1))), (0, .ref (σ.2.1 19)), (1, .int (nI a)), (2, .int (nI pa)), (4, .int (nI kf_119))] dX3_weave_172 0 rfl (by decide) rfl ?_
                      refine q_goto C 143 dX3_weave_175 (by decide) ?_
                      refine q_sub (lv' := [(5, .int (nI (j + 1))), (0, .ref (σ.2.1 19)), (1, .int (nI a)), (2, .int (nI pa)), (4, .int (nI kf_119))]) [0, 1, 2, 3, 4] rfl ?_
                      exact ihL_9 (j + 1) (by omega) (by omega)
                refine q_sub (lv' := [(5, .int (nI 0)), (0, .ref (σ.2.1 19)), (1, .int (nI a)), (2, .int (nI pa)), (4, .int (nI kf_119))]) [0, 3, 4, 5, 1] rfl ?_
                refine q_VG (V' := q_subh (q_up (q_up (q_up V 19 0 (nI 0)) 78 kf_119 (nI pa)) 79 kf_119 (nI a)) a (fun k => nI (q_mneeds V pa (nI k))) 0) (G' := G) ((congrArg (fun U => q_up (q_up U 78 kf_119 (nI pa)) 79 kf_119 (nI a)) (q_up_up _ _ _ _ _)).trans (q_subh_0 _ _ _).symm) rfl ?_
                exact L_9 _ 0 (Nat.zero_le _) (Nat.lt_succ_self _)
            · skip
              refine q_iload_n C dX3_weave_58 rfl 0 rfl ?_
              refine q_if_eq C 88 dX3_weave_59 (by decide) (fun c_59 => ?_) (fun c_59 => ?_)
              · skip
                have hz3 := hz.resolve_left (fun q => by rw [q.1] at c_59; exact absurd c_59 (by decide))
                refine q_iconst C (nI 0) dX3_weave_88 (by decide) ?_
                refine q_istore_n C [(3, .int (nI 0)), (4, .int (nI j)), (0, .ref (σ.2.1 19)), (1, .int (nI a)), (2, .int (nI pa))] dX3_weave_89 rfl (by decide) rfl ?_
                refine q_iincN C [(4, .int (nI (j + 1))), (3, .int (nI 0)), (0, .ref (σ.2.1 19)), (1, .int (nI a)), (2, .int (nI pa))] dX3_weave_90 1 rfl (by decide) rfl ?_
                refine q_goto C 51 dX3_weave_93 (by decide) ?_
                refine q_sub (lv' := [(3, .int (nI 0)), (4, .int (nI (j + 1))), (0, .ref (σ.2.1 19)), (1, .int (nI a)), (2, .int (nI pa))]) [1, 0, 2, 3, 4] rfl ?_
                exact ihL_6 (j + 1) _ (by omega) (by first | exact Or.inr ⟨rfl, fun q => Int32.not_le.mpr c_81 (q.2 j c_55)⟩ | exact Or.inr ⟨rfl, hz3.2⟩) (by omega)
              · skip
                have hz2 := hz.resolve_right (fun q => c_59 q.1)
                refine q_aload_n C dX3_weave_62 rfl 2 rfl ?_
                refine q_get C (k := 19) (fi := 1) (.ref (σ.2.1 69)) (by omega) q_enMO rfl iX3_weave_X3 (by decide) (by decide +kernel) rfl rfl dX3_weave_63 ?_
                refine q_bipush C (nI 8) dX3_weave_66 (by decide) ?_
                refine q_iload_n C dX3_weave_68 rfl 3 rfl ?_
                refine q_imulN C dX3_weave_69  ?_
                refine q_iload C dX3_weave_70 1 rfl ?_
                refine q_iaddN C dX3_weave_72  ?_
                refine q_ialdN C (k := 69) (n := 56) ⟨by decide, by decide, by decide⟩ (by omega) (by decide) dX3_weave_73 ?_
                refine q_stk (st' := [.int (V 69 ((8 * a) + j))]) (congrArg (fun z => Value.int z :: []) (q_up_ne _ _ (by omega))) ?_
                refine q_aload_n C dX3_weave_74 rfl 2 rfl ?_
                refine q_iload_n C dX3_weave_75 rfl 4 rfl ?_
                refine q_iload C dX3_weave_76 1 rfl ?_
                refine q_callVi C (As := [.int (nI pa), .int (nI j)]) (rest := [.int (V 69 ((8 * a) + j))]) (k := 19) (by omega) q_enMO rfl rfl (kX3_needsOf l σ (q_up V 19 0 (nI 0)) G (pa := pa) (by omega) (hp pa hpa) (nI j)) 2 gX3_weave_X3_needsOf rfl rfl rfl (by decide +kernel) ⟨Nat.le_of_ble_eq_true rfl, Nat.le_of_ble_eq_true rfl⟩ dX3_weave_78 rfl (Nat.le_of_ble_eq_true rfl) ⟨Nat.le_of_ble_eq_true rfl, Nat.le_of_ble_eq_true rfl⟩ (fun r_78 V_12 G_13 hq_78 => ?_)
                obtain ⟨rfl, rfl, rfl⟩ := hq_78
                refine q_icmp_lt C 88 dX3_weave_81 (by decide) (fun c_81 => ?_) (fun c_81 => ?_)
                · skip
                  refine q_iconst C (nI 0) dX3_weave_88 (by decide) ?_
                  refine q_istore_n C [(3, .int (nI 0)), (4, .int (nI j)), (0, .ref (σ.2.1 19)), (1, .int (nI a)), (2, .int (nI pa))] dX3_weave_89 rfl (by decide) rfl ?_
                  refine q_iincN C [(4, .int (nI (j + 1))), (3, .int (nI 0)), (0, .ref (σ.2.1 19)), (1, .int (nI a)), (2, .int (nI pa))] dX3_weave_90 1 rfl (by decide) rfl ?_
                  refine q_goto C 51 dX3_weave_93 (by decide) ?_
                  refine q_sub (lv' := [(3, .int (nI 0)), (4, .int (nI (j + 1))), (0, .ref (σ.2.1 19)), (1, .int (nI a)), (2, .int (nI pa))]) [1, 0, 2, 3, 4] rfl ?_
                  exact ihL_6 (j + 1) _ (by omega) (by first | exact Or.inr ⟨rfl, fun q => Int32.not_le.mpr c_81 (q.2 j c_55)⟩ | exact Or.inr ⟨rfl, hz3.2⟩) (by omega)
                · skip
                  refine q_iconst C (nI 1) dX3_weave_84 (by decide) ?_
                  refine q_goto C 89 dX3_weave_85 (by decide) ?_
                  refine q_istore_n C [(3, .int (nI 1)), (4, .int (nI j)), (0, .ref (σ.2.1 19)), (1, .int (nI a)), (2, .int (nI pa))] dX3_weave_89 rfl (by decide) rfl ?_
                  refine q_iincN C [(4, .int (nI (j + 1))), (3, .int (nI 1)), (0, .ref (σ.2.1 19)), (1, .int (nI a)), (2, .int (nI pa))] dX3_weave_90 1 rfl (by decide) rfl ?_
                  refine q_goto C 51 dX3_weave_93 (by decide) ?_
                  refine q_sub (lv' := [(3, .int (nI 1)), (4, .int (nI (j + 1))), (0, .ref (σ.2.1 19)), (1, .int (nI a)), (2, .int (nI pa))]) [1, 0, 2, 3, 4] rfl ?_
                  exact ihL_6 (j + 1) _ (by omega) (Or.inl ⟨rfl, hz2.2.1, lt_s hz2.2.2 (Int32.not_lt.mp c_81)⟩) (by omega)
        refine q_sub (lv' := [(3, .int z), (4, .int (nI 0)), (0, .ref (σ.2.1 19)), (1, .int (nI a)), (2, .int (nI pa))]) [1, 0, 2, 3, 4] rfl ?_
        exact L_6 _ 0 z (Nat.zero_le _) (hz.imp (fun q => ⟨q.1, q.2, lt_0⟩) (fun q => ⟨q.1, fun w => q.2 w.1⟩)) (Nat.lt_succ_self _)
      refine q_aload_n C dX3_weave_33 rfl 0 rfl ?_
      refine q_callVi C (As := []) (rest := []) (k := 19) (by omega) q_enMO rfl rfl (kX3_freeBelt l σ (q_up V 19 0 (nI 0)) G) 0 gX3_weave_X3_freeBelt rfl rfl rfl (by decide +kernel) ⟨Nat.le_of_ble_eq_true rfl, Nat.le_of_ble_eq_true rfl⟩ dX3_weave_34 rfl (Nat.le_of_ble_eq_true rfl) ⟨Nat.le_of_ble_eq_true rfl, Nat.le_of_ble_eq_true rfl⟩ (fun r_34 V_14 G_15 hq_34 => ?_)
      obtain ⟨⟨kf_34, hf1_34, hf2_34, hf3_34, rfl⟩, rfl, rfl⟩ := hq_34
      refine q_bipush C (nI 20) dX3_weave_37 (by decide) ?_
      refine q_icmp_geN C 46 dX3_weave_39 (by decide) (by omega) (by omega) (fun c_39 => ?_) (fun c_39 => ?_)
      · skip
        refine q_iconst C (nI 0) dX3_weave_46 (by decide) ?_
        refine q_istore_n C [(3, .int (nI 0)), (0, .ref (σ.2.1 19)), (1, .int (nI a)), (2, .int (nI pa))] dX3_weave_47 rfl (by decide) rfl ?_
        refine q_sub (lv' := [(3, .int (nI 0)), (0, .ref (σ.2.1 19)), (1, .int (nI a)), (2, .int (nI pa))]) [0, 1, 2, 3] rfl ?_
        exact J_5 _ (Or.inr ⟨rfl, fun ⟨b, hb, e⟩ => hf2_34 b (by omega) e⟩)
      · skip
        refine q_iconst C (nI 1) dX3_weave_42 (by decide) ?_
        refine q_goto C 47 dX3_weave_43 (by decide) ?_
        refine q_istore_n C [(3, .int (nI 1)), (0, .ref (σ.2.1 19)), (1, .int (nI a)), (2, .int (nI pa))] dX3_weave_47 rfl (by decide) rfl ?_
        refine q_sub (lv' := [(3, .int (nI 1)), (0, .ref (σ.2.1 19)), (1, .int (nI a)), (2, .int (nI pa))]) [0, 1, 2, 3] rfl ?_
        exact J_5 _ (Or.inl ⟨rfl, _, c_39, hf3_34 c_39⟩)
