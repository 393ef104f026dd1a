abbrev rX3_bring : Room := { frames := 3, cells := 0, slots := 0, locals := 54 }
theorem iX3_bring_X3 : ∀ w ∈ u_ws RX3 TX3 26, w ∈ wsX3_bring := by decide +kernel
set_option maxHeartbeats 4000000 in
set_option maxRecDepth 100000 in
/-- bring, the reference -/
theorem kX3_bring (l : Launch) (σ : q_E) (V : q_V) (G : q_G) (x y z : Int32) : q_Mi l yX3_bring wsX3_bring rX3_bring σ [.ref (σ.2.1 19), .int x, .int y, .int z] V G (fun r V' G' => q_mres V (q_c3 (q_ok 7 x ∧ q_ok 8 y) (¬ z < nI 1 ∧ ¬ nI 1000 < z) (V 69 (8 * q_n x + q_n y) + z ≤ nI 100000)) (V 69 (8 * q_n x + q_n y) + z) (q_up (q_up (q_up V 19 0 (nI 0)) 69 (8 * q_n x + q_n y) (V 69 (8 * q_n x + q_n y) + z)) 71 (q_n y) (V 71 (q_n y) + z)) r V' ∧ G = G') 0 0 := by
  refine q_Mi_of (cc := cX3_bring) (maxL := 5) (lv := [(0, .ref (σ.2.1 19)), (1, .int x), (2, .int y), (3, .int z)]) (by decide +kernel) rfl (Nat.le_of_ble_eq_true rfl) rfl ?_
  intro p e s m args below meth c Q C hR
  refine q_iload_n C dX3_bring_0 rfl 1 rfl ?_
  refine q_callSi C (As := [.int x]) (rest := []) (kX3_isPerson l σ V G x) 1 gX3_bring_X3_isPerson rfl rfl rfl (by decide +kernel) ⟨Nat.le_of_ble_eq_true rfl, Nat.le_of_ble_eq_true rfl⟩ dX3_bring_1 rfl (Nat.le_of_ble_eq_true rfl) ⟨Nat.le_of_ble_eq_true rfl, Nat.le_of_ble_eq_true rfl⟩ (fun r_1 V_1 G_2 hq_1 => ?_)
  obtain ⟨hs_1, rfl, rfl⟩ := hq_1
  refine q_if_eq C 18 dX3_bring_4 (by decide) (fun c_4 => ?_) (fun c_4 => ?_)
  · skip
    have b_1 := (q_is_eq hs_1).mp c_4
    refine q_iconst C (nI 0) dX3_bring_18 (by decide) ?_
    refine q_istore C [(4, .int (nI 0)), (0, .ref (σ.2.1 19)), (1, .int x), (2, .int y), (3, .int z)] dX3_bring_19 (by decide) rfl ?_
    refine q_aload_n C dX3_bring_21 rfl 1 rfl ?_
    refine q_iload C dX3_bring_22 0 rfl ?_
    refine q_if_ne C 31 dX3_bring_24 (by decide) (fun c_24 => absurd c_24 (by decide)) (fun _ => ?_)
    refine q_iconst C (nI 1) dX3_bring_27 (by decide) ?_
    refine q_goto C 69 dX3_bring_28 (by decide) ?_
    refine q_put C (k := 19) (fi := 0) tyX3 tyX3_ok nmX3 (by omega) q_enMO rfl iX3_bring_X3 (by decide) (by decide +kernel) rfl rfl (by decide +kernel) (Nat.le_of_ble_eq_true rfl) (q_enMO |>.trans (by simp [q_up])) dX3_bring_69 ?_
    refine q_aload_n C dX3_bring_72 rfl 1 rfl ?_
    refine q_get C (k := 19) (fi := 0) (.int (nI 1)) (by omega) q_enMO rfl iX3_bring_X3 (by decide) (by decide +kernel) rfl (congrArg (fun z => some (Value.int z)) (q_up_self _ _ _ _)) dX3_bring_73 ?_
    refine q_if_le C 81 dX3_bring_76 (by decide) (fun c_76 => absurd c_76 (by decide)) (fun _ => ?_)
    refine q_iconst C (nI 0) dX3_bring_79 (by decide) ?_
    refine hR _ _ _ _ _ _ _ ?_ rfl (Nat.le_of_ble_eq_true rfl) (Nat.le_of_ble_eq_true rfl) dX3_bring_80
    refine ⟨?_, rfl⟩
    first | exact q_mres_1 (q_c3_1 (fun q => b_1 q.1)) (by decide) rfl | exact q_mres_1 (q_c3_1 (fun q => b_8 q.2)) (by decide) rfl
  · skip
    have b_1 := (q_is_ne hs_1).mp c_4
    refine q_iload_n C dX3_bring_7 rfl 2 rfl ?_
    refine q_callSi C (As := [.int y]) (rest := []) (kX3_isColour l σ V G y) 1 gX3_bring_X3_isColour rfl rfl rfl (by decide +kernel) ⟨Nat.le_of_ble_eq_true rfl, Nat.le_of_ble_eq_true rfl⟩ dX3_bring_8 rfl (Nat.le_of_ble_eq_true rfl) ⟨Nat.le_of_ble_eq_true rfl, Nat.le_of_ble_eq_true rfl⟩ (fun r_8 V_3 G_4 hq_8 => ?_)
    obtain ⟨hs_8, rfl, rfl⟩ := hq_8
    refine q_if_eq C 18 dX3_bring_11 (by decide) (fun c_11 => ?_) (fun c_11 => ?_)
    · skip
      have b_8 := (q_is_eq hs_8).mp c_11
      refine q_iconst C (nI 0) dX3_bring_18 (by decide) ?_
      refine q_istore C [(4, .int (nI 0)), (0, .ref (σ.2.1 19)), (1, .int x), (2, .int y), (3, .int z)] dX3_bring_19 (by decide) rfl ?_
      refine q_aload_n C dX3_bring_21 rfl 1 rfl ?_
      refine q_iload C dX3_bring_22 0 rfl ?_
      refine q_if_ne C 31 dX3_bring_24 (by decide) (fun c_24 => absurd c_24 (by decide)) (fun _ => ?_)
      refine q_iconst C (nI 1) dX3_bring_27 (by decide) ?_
      refine q_goto C 69 dX3_bring_28 (by decide) ?_
      refine q_put C (k := 19) (fi := 0) tyX3 tyX3_ok nmX3 (by omega) q_enMO rfl iX3_bring_X3 (by decide) (by decide +kernel) rfl rfl (by decide +kernel) (Nat.le_of_ble_eq_true rfl) (q_enMO |>.trans (by simp [q_up])) dX3_bring_69 ?_
      refine q_aload_n C dX3_bring_72 rfl 1 rfl ?_
      refine q_get C (k := 19) (fi := 0) (.int (nI 1)) (by omega) q_enMO rfl iX3_bring_X3 (by decide) (by decide +kernel) rfl (congrArg (fun z => some (Value.int z)) (q_up_self _ _ _ _)) dX3_bring_73 ?_
      refine q_if_le C 81 dX3_bring_76 (by decide) (fun c_76 => absurd c_76 (by decide)) (fun _ => ?_)
      refine q_iconst C (nI 0) dX3_bring_79 (by decide) ?_
      refine hR _ _ _ _ _ _ _ ?_ rfl (Nat.le_of_ble_eq_true rfl) (Nat.le_of_ble_eq_true rfl) dX3_bring_80
      refine ⟨?_, rfl⟩
      first | exact q_mres_1 (q_c3_1 (fun q => b_1 q.1)) (by decide) rfl | exact q_mres_1 (q_c3_1 (fun q => b_8 q.2)) (by decide) rfl
    · skip
      have b_8 := (q_is_ne hs_8).mp c_11
      refine q_iconst C (nI 1) dX3_bring_14 (by decide) ?_
      refine q_goto C 19 dX3_bring_15 (by decide) ?_
      refine q_istore C [(4, .int (nI 1)), (0, .ref (σ.2.1 19)), (1, .int x), (2, .int y), (3, .int z)] dX3_bring_19 (by decide) rfl ?_
      refine q_aload_n C dX3_bring_21 rfl 1 rfl ?_
      refine q_iload C dX3_bring_22 0 rfl ?_
      refine q_if_ne C 31 dX3_bring_24 (by decide) (fun _ => ?_) (fun c_24 => absurd c_24 (by decide))
      refine q_iload_n C dX3_bring_31 rfl 4 rfl ?_
      refine q_iconst C (nI 1) dX3_bring_32 (by decide) ?_
      refine q_sipush C (nI 1000) dX3_bring_33 (by decide) ?_
      refine q_callSi C (As := [.int z, .int (nI 1), .int (nI 1000)]) (rest := [.ref (σ.2.1 19)]) (kX3_isIn l σ V G z (nI 1) (nI 1000)) 3 gX3_bring_X3_isIn rfl rfl rfl (by decide +kernel) ⟨Nat.le_of_ble_eq_true rfl, Nat.le_of_ble_eq_true rfl⟩ dX3_bring_36 rfl (Nat.le_of_ble_eq_true rfl) ⟨Nat.le_of_ble_eq_true rfl, Nat.le_of_ble_eq_true rfl⟩ (fun r_36 V_5 G_6 hq_36 => ?_)
      obtain ⟨hs_36, rfl, rfl⟩ := hq_36
      refine q_if_ne C 46 dX3_bring_39 (by decide) (fun c_39 => ?_) (fun c_39 => ?_)
      · skip
        have b_36 := (q_is_ne hs_36).mp c_39
        obtain ⟨a, ha, rfl⟩ := b_1
        obtain ⟨cc, hcc, rfl⟩ := b_8
        refine q_aload_n C dX3_bring_46 rfl 1 rfl ?_
        refine q_get C (k := 19) (fi := 1) (.ref (σ.2.1 69)) (by omega) q_enMO rfl iX3_bring_X3 (by decide) (by decide +kernel) rfl rfl dX3_bring_47 ?_
        refine q_bipush C (nI 8) dX3_bring_50 (by decide) ?_
        refine q_iload_n C dX3_bring_52 rfl 2 rfl ?_
        refine q_imulN C dX3_bring_53  ?_
        refine q_iload_n C dX3_bring_54 rfl 3 rfl ?_
        refine q_iaddN C dX3_bring_55  ?_
        refine q_ialdN C (k := 69) (n := 56) ⟨by decide, by decide, by decide⟩ (by omega) (by decide) dX3_bring_56 ?_
        refine q_iload_n C dX3_bring_57 rfl 4 rfl ?_
        refine q_iadd C dX3_bring_58 ?_
        refine q_ldc C (nI 100000) dX3_bring_59 (by decide +kernel) ?_
        refine q_icmp_le C 68 dX3_bring_61 (by decide) (fun c_61 => ?_) (fun c_61 => ?_)
        · skip
          refine q_iconst C (nI 0) dX3_bring_68 (by decide) ?_
          refine q_put C (k := 19) (fi := 0) tyX3 tyX3_ok nmX3 (by omega) q_enMO rfl iX3_bring_X3 (by decide) (by decide +kernel) rfl rfl (by decide +kernel) (Nat.le_of_ble_eq_true rfl) (q_enMO |>.trans (by simp [q_up])) dX3_bring_69 ?_
          refine q_aload_n C dX3_bring_72 rfl 1 rfl ?_
          refine q_get C (k := 19) (fi := 0) (.int (nI 0)) (by omega) q_enMO rfl iX3_bring_X3 (by decide) (by decide +kernel) rfl (congrArg (fun z => some (Value.int z)) (q_up_self _ _ _ _)) dX3_bring_73 ?_
          refine q_if_le C 81 dX3_bring_76 (by decide) (fun _ => ?_) (fun c_76 => absurd c_76 (by decide))
          refine q_aload_n C dX3_bring_81 rfl 1 rfl ?_
          refine q_get C (k := 19) (fi := 1) (.ref (σ.2.1 69)) (by omega) q_enMO rfl iX3_bring_X3 (by decide) (by decide +kernel) rfl rfl dX3_bring_82 ?_
          refine q_bipush C (nI 8) dX3_bring_85 (by decide) ?_
          refine q_iload_n C dX3_bring_87 rfl 2 rfl ?_
          refine q_imulN C dX3_bring_88  ?_
          refine q_iload_n C dX3_bring_89 rfl 3 rfl ?_
          refine q_iaddN C dX3_bring_90  ?_
          refine q_dup2 C dX3_bring_91 rfl rfl ?_
          refine q_ialdN C (k := 69) (n := 56) ⟨by decide, by decide, by decide⟩ (by omega) (by decide) dX3_bring_92 ?_
          refine q_stk (st' := [.int (V 69 ((8 * a) + cc)), .int (nI ((8 * a) + cc)), .ref (σ.2.1 69)]) (congrArg (fun z => Value.int z :: [.int (nI ((8 * a) + cc)), .ref (σ.2.1 69)]) (q_up_ne _ _ (by omega))) ?_
          refine q_iload_n C dX3_bring_93 rfl 4 rfl ?_
          refine q_iadd C dX3_bring_94 ?_
          refine q_iastN C (k := 69) (n := 56) ⟨by decide, by decide, by decide⟩ (by omega) (by decide) dX3_bring_95 ?_
          refine q_aload_n C dX3_bring_96 rfl 1 rfl ?_
          refine q_get C (k := 19) (fi := 3) (.ref (σ.2.1 71)) (by omega) q_enMO rfl iX3_bring_X3 (by decide) (by decide +kernel) rfl rfl dX3_bring_97 ?_
          refine q_iload_n C dX3_bring_100 rfl 3 rfl ?_
          refine q_dup2 C dX3_bring_101 rfl rfl ?_
          refine q_ialdN C (k := 71) (n := 8) ⟨by decide, by decide, by decide⟩ (by omega) (by decide) dX3_bring_102 ?_
          refine q_stk (st' := [.int (V 71 cc), .int (nI cc), .ref (σ.2.1 71)]) (congrArg (fun z => Value.int z :: [.int (nI cc), .ref (σ.2.1 71)]) ((q_up_ne _ _ (by omega)).trans (q_up_ne _ _ (by omega)))) ?_
          refine q_iload_n C dX3_bring_103 rfl 4 rfl ?_
          refine q_iadd C dX3_bring_104 ?_
          refine q_iastN C (k := 71) (n := 8) ⟨by decide, by decide, by decide⟩ (by omega) (by decide) dX3_bring_105 ?_
          refine q_aload_n C dX3_bring_106 rfl 1 rfl ?_
          refine q_get C (k := 19) (fi := 1) (.ref (σ.2.1 69)) (by omega) q_enMO rfl iX3_bring_X3 (by decide) (by decide +kernel) rfl rfl dX3_bring_107 ?_
          refine q_bipush C (nI 8) dX3_bring_110 (by decide) ?_
          refine q_iload_n C dX3_bring_112 rfl 2 rfl ?_
          refine q_imulN C dX3_bring_113  ?_
          refine q_iload_n C dX3_bring_114 rfl 3 rfl ?_
          refine q_iaddN C dX3_bring_115  ?_
          refine q_ialdN C (k := 69) (n := 56) ⟨by decide, by decide, by decide⟩ (by omega) (by decide) dX3_bring_116 ?_
          refine q_stk (st' := [.int ((V 69 ((8 * a) + cc)) + z)]) (congrArg (fun z => Value.int z :: []) ((q_up_ne _ _ (by omega)).trans (q_up_self _ _ _ _))) ?_
          refine hR _ _ _ _ _ _ _ ?_ rfl (Nat.le_of_ble_eq_true rfl) (Nat.le_of_ble_eq_true rfl) dX3_bring_117
          refine ⟨?_, rfl⟩
          simp only [q_n_nI (n := a) (by omega), q_n_nI (n := cc) (by omega)]
          exact q_mres_0 (q_c3_0 ⟨q_ok_nI ha, q_ok_nI hcc⟩ b_36 c_61) rfl rfl
        · skip
          refine q_iconst C (nI 3) dX3_bring_64 (by decide) ?_
          refine q_goto C 69 dX3_bring_65 (by decide) ?_
          refine q_put C (k := 19) (fi := 0) tyX3 tyX3_ok nmX3 (by omega) q_enMO rfl iX3_bring_X3 (by decide) (by decide +kernel) rfl rfl (by decide +kernel) (Nat.le_of_ble_eq_true rfl) (q_enMO |>.trans (by simp [q_up])) dX3_bring_69 ?_
          refine q_aload_n C dX3_bring_72 rfl 1 rfl ?_
          refine q_get C (k := 19) (fi := 0) (.int (nI 3)) (by omega) q_enMO rfl iX3_bring_X3 (by decide) (by decide +kernel) rfl (congrArg (fun z => some (Value.int z)) (q_up_self _ _ _ _)) dX3_bring_73 ?_
          refine q_if_le C 81 dX3_bring_76 (by decide) (fun c_76 => absurd c_76 (by decide)) (fun _ => ?_)
          refine q_iconst C (nI 0) dX3_bring_79 (by decide) ?_
          refine hR _ _ _ _ _ _ _ ?_ rfl (Nat.le_of_ble_eq_true rfl) (Nat.le_of_ble_eq_true rfl) dX3_bring_80
          refine ⟨?_, rfl⟩
          simp only [q_n_nI (n := a) (by omega), q_n_nI (n := cc) (by omega)]
          exact q_mres_1 (q_c3_3 ⟨q_ok_nI ha, q_ok_nI hcc⟩ b_36 c_61) (by decide) rfl
      · skip
        have b_36 := (q_is_eq hs_36).mp c_39
        refine q_iconst C (nI 2) dX3_bring_42 (by decide) ?_
        refine q_goto C 69 dX3_bring_43 (by decide) ?_
        refine q_put C (k := 19) (fi := 0) tyX3 tyX3_ok nmX3 (by omega) q_enMO rfl iX3_bring_X3 (by decide) (by decide +kernel) rfl rfl (by decide +kernel) (Nat.le_of_ble_eq_true rfl) (q_enMO |>.trans (by simp [q_up])) dX3_bring_69 ?_
        refine q_aload_n C dX3_bring_72 rfl 1 rfl ?_
        refine q_get C (k := 19) (fi := 0) (.int (nI 2)) (by omega) q_enMO rfl iX3_bring_X3 (by decide) (by decide +kernel) rfl (congrArg (fun z => some (Value.int z)) (q_up_self _ _ _ _)) dX3_bring_73 ?_
        refine q_if_le C 81 dX3_bring_76 (by decide) (fun c_76 => absurd c_76 (by decide)) (fun _ => ?_)
        refine q_iconst C (nI 0) dX3_bring_79 (by decide) ?_
        refine hR _ _ _ _ _ _ _ ?_ rfl (Nat.le_of_ble_eq_true rfl) (Nat.le_of_ble_eq_true rfl) dX3_bring_80
        refine ⟨?_, rfl⟩
        exact q_mres_1 (q_c3_2 ⟨b_1, b_8⟩ b_36) (by decide) rfl
abbrev rX3_lay : Room := { frames := 3, cells := 0, slots := 0, locals := 54 }
theorem iX3_lay_X3 : ∀ w ∈ u_ws RX3 TX3 26, w ∈ wsX3_lay := by decide +kernel
set_option maxHeartbeats 4000000 in
set_option maxRecDepth 100000 in
/-- lay, the reference -/
theorem kX3_lay (l : Launch) (σ : q_E) (V : q_V) (G : q_G) (x y z : Int32) : q_Mi l yX3_lay wsX3_lay rX3_lay σ [.ref (σ.2.1 19), .int x, .int y, .int z] V G (fun r V' G' => q_mres V (q_c3 (q_ok 7 x ∧ q_ok 8 y) (¬ z < -1000 ∧ ¬ nI 1000 < z) (¬ V 69 (8 * q_n x + q_n y) - z < 0 ∧ ¬ nI 100000 < V 69 (8 * q_n x + q_n y) - z ∧ 0 ≤ V 70 (q_n y) + z)) (V 70 (q_n y) + z) (q_up (q_up (q_up V 19 0 (nI 0)) 69 (8 * q_n x + q_n y) (V 69 (8 * q_n x + q_n y) - z)) 70 (q_n y) (V 70 (q_n y) + z)) r V' ∧ G = G') 0 0 := by
  refine q_Mi_of (cc := cX3_lay) (maxL := 5) (lv := [(0, .ref (σ.2.1 19)), (1, .int x), (2, .int y), (3, .int z)]) (by decide +kernel) rfl (Nat.le_of_ble_eq_true rfl) rfl ?_
  intro p e s m args below meth c Q C hR
  refine q_aload_n C dX3_lay_0 rfl 0 rfl ?_
  refine q_iload_n C dX3_lay_1 rfl 1 rfl ?_
  refine q_callSi C (As := [.int x]) (rest := [.ref (σ.2.1 19)]) (kX3_isPerson l σ V G x) 1 gX3_lay_X3_isPerson rfl rfl rfl (by decide +kernel) ⟨Nat.le_of_ble_eq_true rfl, Nat.le_of_ble_eq_true rfl⟩ dX3_lay_2 rfl (Nat.le_of_ble_eq_true rfl) ⟨Nat.le_of_ble_eq_true rfl, Nat.le_of_ble_eq_true rfl⟩ (fun r_2 V_1 G_2 hq_2 => ?_)
  obtain ⟨hs_2, rfl, rfl⟩ := hq_2
  refine q_if_eq C 15 dX3_lay_5 (by decide) (fun c_5 => ?_) (fun c_5 => ?_)
  · skip
    have b_2 := (q_is_eq hs_2).mp c_5
    refine q_iconst C (nI 1) dX3_lay_15 (by decide) ?_
    refine q_goto C 37 dX3_lay_16 (by decide) ?_
    refine q_put C (k := 19) (fi := 0) tyX3 tyX3_ok nmX3 (by omega) q_enMO rfl iX3_lay_X3 (by decide) (by decide +kernel) rfl rfl (by decide +kernel) (Nat.le_of_ble_eq_true rfl) (q_enMO |>.trans (by simp [q_up])) dX3_lay_37 ?_
    refine q_aload_n C dX3_lay_40 rfl 0 rfl ?_
    refine q_get C (k := 19) (fi := 0) (.int (nI 1)) (by omega) q_enMO rfl iX3_lay_X3 (by decide) (by decide +kernel) rfl (congrArg (fun z => some (Value.int z)) (q_up_self _ _ _ _)) dX3_lay_41 ?_
    refine q_if_le C 49 dX3_lay_44 (by decide) (fun c_44 => absurd c_44 (by decide)) (fun _ => ?_)
    refine q_iconst C (nI 0) dX3_lay_47 (by decide) ?_
    refine hR _ _ _ _ _ _ _ ?_ rfl (Nat.le_of_ble_eq_true rfl) (Nat.le_of_ble_eq_true rfl) dX3_lay_48
    refine ⟨?_, rfl⟩
    first | exact q_mres_1 (q_c3_1 (fun q => b_2 q.1)) (by decide) rfl | exact q_mres_1 (q_c3_1 (fun q => b_9 q.2)) (by decide) rfl
  · skip
    have b_2 := (q_is_ne hs_2).mp c_5
    refine q_iload_n C dX3_lay_8 rfl 2 rfl ?_
    refine q_callSi C (As := [.int y]) (rest := [.ref (σ.2.1 19)]) (kX3_isColour l σ V G y) 1 gX3_lay_X3_isColour rfl rfl rfl (by decide +kernel) ⟨Nat.le_of_ble_eq_true rfl, Nat.le_of_ble_eq_true rfl⟩ dX3_lay_9 rfl (Nat.le_of_ble_eq_true rfl) ⟨Nat.le_of_ble_eq_true rfl, Nat.le_of_ble_eq_true rfl⟩ (fun r_9 V_3 G_4 hq_9 => ?_)
    obtain ⟨hs_9, rfl, rfl⟩ := hq_9
    refine q_if_ne C 19 dX3_lay_12 (by decide) (fun c_12 => ?_) (fun c_12 => ?_)
    · skip
      have b_9 := (q_is_ne hs_9).mp c_12
      refine q_iload_n C dX3_lay_19 rfl 3 rfl ?_
      refine q_sipush C ((-1000)) dX3_lay_20 (by decide) ?_
      refine q_sipush C (nI 1000) dX3_lay_23 (by decide) ?_
      refine q_callSi C (As := [.int z, .int ((-1000)), .int (nI 1000)]) (rest := [.ref (σ.2.1 19)]) (kX3_isIn l σ V G z ((-1000)) (nI 1000)) 3 gX3_lay_X3_isIn rfl rfl rfl (by decide +kernel) ⟨Nat.le_of_ble_eq_true rfl, Nat.le_of_ble_eq_true rfl⟩ dX3_lay_26 rfl (Nat.le_of_ble_eq_true rfl) ⟨Nat.le_of_ble_eq_true rfl, Nat.le_of_ble_eq_true rfl⟩ (fun r_26 V_5 G_6 hq_26 => ?_)
      obtain ⟨hs_26, rfl, rfl⟩ := hq_26
      refine q_if_eq C 36 dX3_lay_29 (by decide) (fun c_29 => ?_) (fun c_29 => ?_)
      · skip
        have b_26 := (q_is_eq hs_26).mp c_29
        refine q_iconst C (nI 2) dX3_lay_36 (by decide) ?_
        refine q_put C (k := 19) (fi := 0) tyX3 tyX3_ok nmX3 (by omega) q_enMO rfl iX3_lay_X3 (by decide) (by decide +kernel) rfl rfl (by decide +kernel) (Nat.le_of_ble_eq_true rfl) (q_enMO |>.trans (by simp [q_up])) dX3_lay_37 ?_
        refine q_aload_n C dX3_lay_40 rfl 0 rfl ?_
        refine q_get C (k := 19) (fi := 0) (.int (nI 2)) (by omega) q_enMO rfl iX3_lay_X3 (by decide) (by decide +kernel) rfl (congrArg (fun z => some (Value.int z)) (q_up_self _ _ _ _)) dX3_lay_41 ?_
        refine q_if_le C 49 dX3_lay_44 (by decide) (fun c_44 => absurd c_44 (by decide)) (fun _ => ?_)
        refine q_iconst C (nI 0) dX3_lay_47 (by decide) ?_
        refine hR _ _ _ _ _ _ _ ?_ rfl (Nat.le_of_ble_eq_true rfl) (Nat.le_of_ble_eq_true rfl) dX3_lay_48
        refine ⟨?_, rfl⟩
        exact q_mres_1 (q_c3_2 ⟨b_2, b_9⟩ b_26) (by decide) rfl
      · skip
        have b_26 := (q_is_ne hs_26).mp c_29
        obtain ⟨a, ha, rfl⟩ := b_2
        obtain ⟨cc, hcc, rfl⟩ := b_9
        refine q_iconst C (nI 0) dX3_lay_32 (by decide) ?_
        refine q_goto C 37 dX3_lay_33 (by decide) ?_
        refine q_put C (k := 19) (fi := 0) tyX3 tyX3_ok nmX3 (by omega) q_enMO rfl iX3_lay_X3 (by decide) (by decide +kernel) rfl rfl (by decide +kernel) (Nat.le_of_ble_eq_true rfl) (q_enMO |>.trans (by simp [q_up])) dX3_lay_37 ?_
        refine q_aload_n C dX3_lay_40 rfl 0 rfl ?_
        refine q_get C (k := 19) (fi := 0) (.int (nI 0)) (by omega) q_enMO rfl iX3_lay_X3 (by decide) (by decide +kernel) rfl (congrArg (fun z => some (Value.int z)) (q_up_self _ _ _ _)) dX3_lay_41 ?_
        refine q_if_le C 49 dX3_lay_44 (by decide) (fun _ => ?_) (fun c_44 => absurd c_44 (by decide))
        refine q_aload_n C dX3_lay_49 rfl 0 rfl ?_
        refine q_get C (k := 19) (fi := 1) (.ref (σ.2.1 69)) (by omega) q_enMO rfl iX3_lay_X3 (by decide) (by decide +kernel) rfl rfl dX3_lay_50 ?_
        refine q_bipush C (nI 8) dX3_lay_53 (by decide) ?_
        refine q_iload_n C dX3_lay_55 rfl 1 rfl ?_
        refine q_imulN C dX3_lay_56  ?_
        refine q_iload_n C dX3_lay_57 rfl 2 rfl ?_
        refine q_iaddN C dX3_lay_58  ?_
        refine q_ialdN C (k := 69) (n := 56) ⟨by decide, by decide, by decide⟩ (by omega) (by decide) dX3_lay_59 ?_
        refine q_stk (st' := [.int (V 69 ((8 * a) + cc))]) (congrArg (fun z => Value.int z :: []) (q_up_ne _ _ (by omega))) ?_
        refine q_iload_n C dX3_lay_60 rfl 3 rfl ?_
        refine q_isub C dX3_lay_61 ?_
        refine q_istore C [(4, .int ((V 69 ((8 * a) + cc)) - z)), (0, .ref (σ.2.1 19)), (1, .int (nI a)), (2, .int (nI cc)), (3, .int z)] dX3_lay_62 (by decide) rfl ?_
        refine q_aload_n C dX3_lay_64 rfl 1 rfl ?_
        refine q_iload C dX3_lay_65 0 rfl ?_
        refine q_if_lt C 88 dX3_lay_67 (by decide) (fun c_67 => ?_) (fun c_67 => ?_)
        · skip
          refine q_iconst C (nI 3) dX3_lay_88 (by decide) ?_
          refine q_goto C 93 dX3_lay_89 (by decide) ?_
          refine q_put C (k := 19) (fi := 0) tyX3 tyX3_ok nmX3 (by omega) q_enMO rfl iX3_lay_X3 (by decide) (by decide +kernel) rfl rfl (by decide +kernel) (Nat.le_of_ble_eq_true rfl) (q_enMO |>.trans (by simp [q_up])) dX3_lay_93 ?_
          refine q_aload_n C dX3_lay_96 rfl 1 rfl ?_
          refine q_get C (k := 19) (fi := 0) (.int (nI 3)) (by omega) q_enMO rfl iX3_lay_X3 (by decide) (by decide +kernel) rfl (congrArg (fun z => some (Value.int z)) (q_up_self _ _ _ _)) dX3_lay_97 ?_
          refine q_if_le C 105 dX3_lay_100 (by decide) (fun c_100 => absurd c_100 (by decide)) (fun _ => ?_)
          refine q_iconst C (nI 0) dX3_lay_103 (by decide) ?_
          refine hR _ _ _ _ _ _ _ ?_ rfl (Nat.le_of_ble_eq_true rfl) (Nat.le_of_ble_eq_true rfl) dX3_lay_104
          rw [q_up_up]
          refine ⟨?_, rfl⟩
          simp only [q_n_nI (n := a) (by omega), q_n_nI (n := cc) (by omega)]
          first | exact q_mres_1 (q_c3_3 ⟨q_ok_nI ha, q_ok_nI hcc⟩ b_26 (fun q => q.1 c_67)) (by decide) rfl | exact q_mres_1 (q_c3_3 ⟨q_ok_nI ha, q_ok_nI hcc⟩ b_26 (fun q => q.2.1 c_74)) (by decide) rfl | exact q_mres_1 (q_c3_3 ⟨q_ok_nI ha, q_ok_nI hcc⟩ b_26 (fun q => c_85 q.2.2)) (by decide) rfl
        · skip
          refine q_iload C dX3_lay_70 0 rfl ?_
          refine q_ldc C (nI 100000) dX3_lay_72 (by decide +kernel) ?_
          refine q_icmp_gt C 88 dX3_lay_74 (by decide) (fun c_74 => ?_) (fun c_74 => ?_)
          · skip
            refine q_iconst C (nI 3) dX3_lay_88 (by decide) ?_
            refine q_goto C 93 dX3_lay_89 (by decide) ?_
            refine q_put C (k := 19) (fi := 0) tyX3 tyX3_ok nmX3 (by omega) q_enMO rfl iX3_lay_X3 (by decide) (by decide +kernel) rfl rfl (by decide +kernel) (Nat.le_of_ble_eq_true rfl) (q_enMO |>.trans (by simp [q_up])) dX3_lay_93 ?_
            refine q_aload_n C dX3_lay_96 rfl 1 rfl ?_
            refine q_get C (k := 19) (fi := 0) (.int (nI 3)) (by omega) q_enMO rfl iX3_lay_X3 (by decide) (by decide +kernel) rfl (congrArg (fun z => some (Value.int z)) (q_up_self _ _ _ _)) dX3_lay_97 ?_
            refine q_if_le C 105 dX3_lay_100 (by decide) (fun c_100 => absurd c_100 (by decide)) (fun _ => ?_)
            refine q_iconst C (nI 0) dX3_lay_103 (by decide) ?_
            refine hR _ _ _ _ _ _ _ ?_ rfl (Nat.le_of_ble_eq_true rfl) (Nat.le_of_ble_eq_true rfl) dX3_lay_104
            rw [q_up_up]
            refine ⟨?_, rfl⟩
            simp only [q_n_nI (n := a) (by omega), q_n_nI (n := cc) (by omega)]
            first | exact q_mres_1 (q_c3_3 ⟨q_ok_nI ha, q_ok_nI hcc⟩ b_26 (fun q => q.1 c_67)) (by decide) rfl | exact q_mres_1 (q_c3_3 ⟨q_ok_nI ha, q_ok_nI hcc⟩ b_26 (fun q => q.2.1 c_74)) (by decide) rfl | exact q_mres_1 (q_c3_3 ⟨q_ok_nI ha, q_ok_nI hcc⟩ b_26 (fun q => c_85 q.2.2)) (by decide) rfl
          · skip
            refine q_aload_n C dX3_lay_77 rfl 1 rfl ?_
            refine q_get C (k := 19) (fi := 2) (.ref (σ.2.1 70)) (by omega) q_enMO rfl iX3_lay_X3 (by decide) (by decide +kernel) rfl rfl dX3_lay_78 ?_
            refine q_iload_n C dX3_lay_81 rfl 3 rfl ?_
            refine q_ialdN C (k := 70) (n := 8) ⟨by decide, by decide, by decide⟩ (by omega) (by decide) dX3_lay_82 ?_
            refine q_stk (st' := [.int (V 70 cc), .ref (σ.2.1 19)]) (congrArg (fun z => Value.int z :: [.ref (σ.2.1 19)]) (q_up_ne _ _ (by omega))) ?_
            refine q_iload_n C dX3_lay_83 rfl 4 rfl ?_
            refine q_iadd C dX3_lay_84 ?_
            refine q_if_ge C 92 dX3_lay_85 (by decide) (fun c_85 => ?_) (fun c_85 => ?_)
            · skip
              refine q_iconst C (nI 0) dX3_lay_92 (by decide) ?_
              refine q_put C (k := 19) (fi := 0) tyX3 tyX3_ok nmX3 (by omega) q_enMO rfl iX3_lay_X3 (by decide) (by decide +kernel) rfl rfl (by decide +kernel) (Nat.le_of_ble_eq_true rfl) (q_enMO |>.trans (by simp [q_up])) dX3_lay_93 ?_
              refine q_aload_n C dX3_lay_96 rfl 1 rfl ?_
              refine q_get C (k := 19) (fi := 0) (.int (nI 0)) (by omega) q_enMO rfl iX3_lay_X3 (by decide) (by decide +kernel) rfl (congrArg (fun z => some (Value.int z)) (q_up_self _ _ _ _)) dX3_lay_97 ?_
              refine q_if_le C 105 dX3_lay_100 (by decide) (fun _ => ?_) (fun c_100 => absurd c_100 (by decide))
              refine q_aload_n C dX3_lay_105 rfl 1 rfl ?_
              refine q_get C (k := 19) (fi := 1) (.ref (σ.2.1 69)) (by omega) q_enMO rfl iX3_lay_X3 (by decide) (by decide +kernel) rfl rfl dX3_lay_106 ?_
              refine q_bipush C (nI 8) dX3_lay_109 (by decide) ?_
              refine q_iload_n C dX3_lay_111 rfl 2 rfl ?_
              refine q_imulN C dX3_lay_112  ?_
              refine q_iload_n C dX3_lay_113 rfl 3 rfl ?_
              refine q_iaddN C dX3_lay_114  ?_
              refine q_iload C dX3_lay_115 0 rfl ?_
              refine q_iastN C (k := 69) (n := 56) ⟨by decide, by decide, by decide⟩ (by omega) (by decide) dX3_lay_117 ?_
              refine q_aload_n C dX3_lay_118 rfl 1 rfl ?_
              refine q_get C (k := 19) (fi := 2) (.ref (σ.2.1 70)) (by omega) q_enMO rfl iX3_lay_X3 (by decide) (by decide +kernel) rfl rfl dX3_lay_119 ?_
              refine q_iload_n C dX3_lay_122 rfl 3 rfl ?_
              refine q_dup2 C dX3_lay_123 rfl rfl ?_
              refine q_ialdN C (k := 70) (n := 8) ⟨by decide, by decide, by decide⟩ (by omega) (by decide) dX3_lay_124 ?_
              refine q_stk (st' := [.int (V 70 cc), .int (nI cc), .ref (σ.2.1 70)]) (congrArg (fun z => Value.int z :: [.int (nI cc), .ref (σ.2.1 70)]) ((q_up_ne _ _ (by omega)).trans ((q_up_ne _ _ (by omega)).trans (q_up_ne _ _ (by omega))))) ?_
              refine q_iload_n C dX3_lay_125 rfl 4 rfl ?_
              refine q_iadd C dX3_lay_126 ?_
              refine q_iastN C (k := 70) (n := 8) ⟨by decide, by decide, by decide⟩ (by omega) (by decide) dX3_lay_127 ?_
              refine q_aload_n C dX3_lay_128 rfl 1 rfl ?_
              refine q_get C (k := 19) (fi := 2) (.ref (σ.2.1 70)) (by omega) q_enMO rfl iX3_lay_X3 (by decide) (by decide +kernel) rfl rfl dX3_lay_129 ?_
              refine q_iload_n C dX3_lay_132 rfl 3 rfl ?_
              refine q_ialdN C (k := 70) (n := 8) ⟨by decide, by decide, by decide⟩ (by omega) (by decide) dX3_lay_133 ?_
              refine q_stk (st' := [.int ((V 70 cc) + z)]) (congrArg (fun z => Value.int z :: []) (q_up_self _ _ _ _)) ?_
              refine hR _ _ _ _ _ _ _ ?_ rfl (Nat.le_of_ble_eq_true rfl) (Nat.le_of_ble_eq_true rfl) dX3_lay_134
              rw [q_up_up]
              refine ⟨?_, rfl⟩
              simp only [q_n_nI (n := a) (by omega), q_n_nI (n := cc) (by omega)]
              exact q_mres_0 (q_c3_0 ⟨q_ok_nI ha, q_ok_nI hcc⟩ b_26 ⟨c_67, c_74, c_85⟩) rfl rfl
            · skip
              refine q_iconst C (nI 3) dX3_lay_88 (by decide) ?_
              refine q_goto C 93 dX3_lay_89 (by decide) ?_
              refine q_put C (k := 19) (fi := 0) tyX3 tyX3_ok nmX3 (by omega) q_enMO rfl iX3_lay_X3 (by decide) (by decide +kernel) rfl rfl (by decide +kernel) (Nat.le_of_ble_eq_true rfl) (q_enMO |>.trans (by simp [q_up])) dX3_lay_93 ?_
              refine q_aload_n C dX3_lay_96 rfl 1 rfl ?_
              refine q_get C (k := 19) (fi := 0) (.int (nI 3)) (by omega) q_enMO rfl iX3_lay_X3 (by decide) (by decide +kernel) rfl (congrArg (fun z => some (Value.int z)) (q_up_self _ _ _ _)) dX3_lay_97 ?_
              refine q_if_le C 105 dX3_lay_100 (by decide) (fun c_100 => absurd c_100 (by decide)) (fun _ => ?_)
              refine q_iconst C (nI 0) dX3_lay_103 (by decide) ?_
              refine hR _ _ _ _ _ _ _ ?_ rfl (Nat.le_of_ble_eq_true rfl) (Nat.le_of_ble_eq_true rfl) dX3_lay_104
              rw [q_up_up]
              refine ⟨?_, rfl⟩
              simp only [q_n_nI (n := a) (by omega), q_n_nI (n := cc) (by omega)]
              first | exact q_mres_1 (q_c3_3 ⟨q_ok_nI ha, q_ok_nI hcc⟩ b_26 (fun q => q.1 c_67)) (by decide) rfl | exact q_mres_1 (q_c3_3 ⟨q_ok_nI ha, q_ok_nI hcc⟩ b_26 (fun q => q.2.1 c_74)) (by decide) rfl | exact q_mres_1 (q_c3_3 ⟨q_ok_nI ha, q_ok_nI hcc⟩ b_26 (fun q => c_85 q.2.2)) (by decide) rfl
    · skip
      have b_9 := (q_is_eq hs_9).mp c_12
      refine q_iconst C (nI 1) dX3_lay_15 (by decide) ?_
      refine q_goto C 37 dX3_lay_16 (by decide) ?_
      refine q_put C (k := 19) (fi := 0) tyX3 tyX3_ok nmX3 (by omega) q_enMO rfl iX3_lay_X3 (by decide) (by decide +kernel) rfl rfl (by decide +kernel) (Nat.le_of_ble_eq_true rfl) (q_enMO |>.trans (by simp [q_up])) dX3_lay_37 ?_
      refine q_aload_n C dX3_lay_40 rfl 0 rfl ?_
      refine q_get C (k := 19) (fi := 0) (.int (nI 1)) (by omega) q_enMO rfl iX3_lay_X3 (by decide) (by decide +kernel) rfl (congrArg (fun z => some (Value.int z)) (q_up_self _ _ _ _)) dX3_lay_41 ?_
      refine q_if_le C 49 dX3_lay_44 (by decide) (fun c_44 => absurd c_44 (by decide)) (fun _ => ?_)
      refine q_iconst C (nI 0) dX3_lay_47 (by decide) ?_
      refine hR _ _ _ _ _ _ _ ?_ rfl (Nat.le_of_ble_eq_true rfl) (Nat.le_of_ble_eq_true rfl) dX3_lay_48
      refine ⟨?_, rfl⟩
      first | exact q_mres_1 (q_c3_1 (fun q => b_2 q.1)) (by decide) rfl | exact q_mres_1 (q_c3_1 (fun q => b_9 q.2)) (by decide) rfl
abbrev rX3_hand : Room := { frames := 3, cells := 0, slots := 0, locals := 54 }
theorem iX3_hand_X3 : ∀ w ∈ u_ws RX3 TX3 26, w ∈ wsX3_hand := by decide +kernel
set_option maxHeartbeats 4000000 in
set_option maxRecDepth 100000 in
/-- hand, the reference -/
theorem kX3_hand (l : Launch) (σ : q_E) (V : q_V) (G : q_G) (x y : Int32) : q_Mi l yX3_hand wsX3_hand rX3_hand σ [.ref (σ.2.1 19), .int x, .int y] V G (fun r V' G' => q_mres V (q_c1 (q_ok 7 x ∧ q_ok 8 y)) (V 69 (8 * q_n x + q_n y)) (q_up V 19 0 (nI 0)) r V' ∧ G = G') 0 0 := by
  refine q_Mi_of (cc := cX3_hand) (maxL := 3) (lv := [(0, .ref (σ.2.1 19)), (1, .int x), (2, .int y)]) (by decide +kernel) rfl (Nat.le_of_ble_eq_true rfl) rfl ?_
  intro p e s m args below meth c Q C hR
  refine q_aload_n C dX3_hand_0 rfl 0 rfl ?_
  refine q_iload_n C dX3_hand_1 rfl 1 rfl ?_
  refine q_callSi C (As := [.int x]) (rest := [.ref (σ.2.1 19)]) (kX3_isPerson l σ V G x) 1 gX3_hand_X3_isPerson rfl rfl rfl (by decide +kernel) ⟨Nat.le_of_ble_eq_true rfl, Nat.le_of_ble_eq_true rfl⟩ dX3_hand_2 rfl (Nat.le_of_ble_eq_true rfl) ⟨Nat.le_of_ble_eq_true rfl, Nat.le_of_ble_eq_true rfl⟩ (fun r_2 V_1 G_2 hq_2 => ?_)
  obtain ⟨hs_2, rfl, rfl⟩ := hq_2
  refine q_if_eq C 19 dX3_hand_5 (by decide) (fun c_5 => ?_) (fun c_5 => ?_)
  · skip
    have b_2 := (q_is_eq hs_2).mp c_5
    refine q_iconst C (nI 1) dX3_hand_19 (by decide) ?_
    refine q_put C (k := 19) (fi := 0) tyX3 tyX3_ok nmX3 (by omega) q_enMO rfl iX3_hand_X3 (by decide) (by decide +kernel) rfl rfl (by decide +kernel) (Nat.le_of_ble_eq_true rfl) (q_enMO |>.trans (by simp [q_up])) dX3_hand_20 ?_
    refine q_aload_n C dX3_hand_23 rfl 0 rfl ?_
    refine q_get C (k := 19) (fi := 0) (.int (nI 1)) (by omega) q_enMO rfl iX3_hand_X3 (by decide) (by decide +kernel) rfl (congrArg (fun z => some (Value.int z)) (q_up_self _ _ _ _)) dX3_hand_24 ?_
    refine q_if_le C 34 dX3_hand_27 (by decide) (fun c_27 => absurd c_27 (by decide)) (fun _ => ?_)
    refine q_iconst C (nI 0) dX3_hand_30 (by decide) ?_
    refine q_goto C 45 dX3_hand_31 (by decide) ?_
    refine hR _ _ _ _ _ _ _ ?_ rfl (Nat.le_of_ble_eq_true rfl) (Nat.le_of_ble_eq_true rfl) dX3_hand_45
    refine ⟨?_, rfl⟩
    first | exact q_mres_1 (q_c1_1 (fun q => b_2 q.1)) (by decide) rfl | exact q_mres_1 (q_c1_1 (fun q => b_9 q.2)) (by decide) rfl
  · skip
    have b_2 := (q_is_ne hs_2).mp c_5
    refine q_iload_n C dX3_hand_8 rfl 2 rfl ?_
    refine q_callSi C (As := [.int y]) (rest := [.ref (σ.2.1 19)]) (kX3_isColour l σ V G y) 1 gX3_hand_X3_isColour rfl rfl rfl (by decide +kernel) ⟨Nat.le_of_ble_eq_true rfl, Nat.le_of_ble_eq_true rfl⟩ dX3_hand_9 rfl (Nat.le_of_ble_eq_true rfl) ⟨Nat.le_of_ble_eq_true rfl, Nat.le_of_ble_eq_true rfl⟩ (fun r_9 V_3 G_4 hq_9 => ?_)
    obtain ⟨hs_9, rfl, rfl⟩ := hq_9
    refine q_if_eq C 19 dX3_hand_12 (by decide) (fun c_12 => ?_) (fun c_12 => ?_)
    · skip
      have b_9 := (q_is_eq hs_9).mp c_12
      refine q_iconst C (nI 1) dX3_hand_19 (by decide) ?_
      refine q_put C (k := 19) (fi := 0) tyX3 tyX3_ok nmX3 (by omega) q_enMO rfl iX3_hand_X3 (by decide) (by decide +kernel) rfl rfl (by decide +kernel) (Nat.le_of_ble_eq_true rfl) (q_enMO |>.trans (by simp [q_up])) dX3_hand_20 ?_
      refine q_aload_n C dX3_hand_23 rfl 0 rfl ?_
      refine q_get C (k := 19) (fi := 0) (.int (nI 1)) (by omega) q_enMO rfl iX3_hand_X3 (by decide) (by decide +kernel) rfl (congrArg (fun z => some (Value.int z)) (q_up_self _ _ _ _)) dX3_hand_24 ?_
      refine q_if_le C 34 dX3_hand_27 (by decide) (fun c_27 => absurd c_27 (by decide)) (fun _ => ?_)
      refine q_iconst C (nI 0) dX3_hand_30 (by decide) ?_
      refine q_goto C 45 dX3_hand_31 (by decide) ?_
      refine hR _ _ _ _ _ _ _ ?_ rfl (Nat.le_of_ble_eq_true rfl) (Nat.le_of_ble_eq_true rfl) dX3_hand_45
      refine ⟨?_, rfl⟩
      first | exact q_mres_1 (q_c1_1 (fun q => b_2 q.1)) (by decide) rfl | exact q_mres_1 (q_c1_1 (fun q => b_9 q.2)) (by decide) rfl
    · skip
      have b_9 := (q_is_ne hs_9).mp c_12
      obtain ⟨a, ha, rfl⟩ := b_2
      obtain ⟨cc, hcc, rfl⟩ := b_9
      refine q_iconst C (nI 0) dX3_hand_15 (by decide) ?_
      refine q_goto C 20 dX3_hand_16 (by decide) ?_
      refine q_put C (k := 19) (fi := 0) tyX3 tyX3_ok nmX3 (by omega) q_enMO rfl iX3_hand_X3 (by decide) (by decide +kernel) rfl rfl (by decide +kernel) (Nat.le_of_ble_eq_true rfl) (q_enMO |>.trans (by simp [q_up])) dX3_hand_20 ?_
      refine q_aload_n C dX3_hand_23 rfl 0 rfl ?_
      refine q_get C (k := 19) (fi := 0) (.int (nI 0)) (by omega) q_enMO rfl iX3_hand_X3 (by decide) (by decide +kernel) rfl (congrArg (fun z => some (Value.int z)) (q_up_self _ _ _ _)) dX3_hand_24 ?_
      refine q_if_le C 34 dX3_hand_27 (by decide) (fun _ => ?_) (fun c_27 => absurd c_27 (by decide))
      refine q_aload_n C dX3_hand_34 rfl 0 rfl ?_
      refine q_get C (k := 19) (fi := 1) (.ref (σ.2.1 69)) (by omega) q_enMO rfl iX3_hand_X3 (by decide) (by decide +kernel) rfl rfl dX3_hand_35 ?_
      refine q_bipush C (nI 8) dX3_hand_38 (by decide) ?_
      refine q_iload_n C dX3_hand_40 rfl 1 rfl ?_
      refine q_imulN C dX3_hand_41  ?_
      refine q_iload_n C dX3_hand_42 rfl 2 rfl ?_
      refine q_iaddN C dX3_hand_43  ?_
      refine q_ialdN C (k := 69) (n := 56) ⟨by decide, by decide, by decide⟩ (by omega) (by decide) dX3_hand_44 ?_
      refine q_stk (st' := [.int (V 69 ((8 * a) + cc))]) (congrArg (fun z => Value.int z :: []) (q_up_ne _ _ (by omega))) ?_
      refine hR _ _ _ _ _ _ _ ?_ rfl (Nat.le_of_ble_eq_true rfl) (Nat.le_of_ble_eq_true rfl) dX3_hand_45
      refine ⟨?_, rfl⟩
      simp only [q_n_nI (n := a) (by omega), q_n_nI (n := cc) (by omega)]
      exact q_mres_0 (q_c1_0 ⟨q_ok_nI ha, q_ok_nI hcc⟩) rfl rfl
abbrev rX3_brought : Room := { frames := 3, cells := 0, slots := 0, locals := 54 }
theorem iX3_brought_X3 : ∀ w ∈ u_ws RX3 TX3 26, w ∈ wsX3_brought := by decide +kernel
set_option maxHeartbeats 4000000 in
set_option maxRecDepth 100000 in
/-- brought, the reference -/
theorem kX3_brought (l : Launch) (σ : q_E) (V : q_V) (G : q_G) (y : Int32) : q_Mi l yX3_brought wsX3_brought rX3_brought σ [.ref (σ.2.1 19), .int y] V G (fun r V' G' => q_mres V (q_c1 (q_ok 8 y)) (V 71 (q_n y)) (q_up V 19 0 (nI 0)) r V' ∧ G = G') 0 0 := by
  refine q_Mi_of (cc := cX3_brought) (maxL := 2) (lv := [(0, .ref (σ.2.1 19)), (1, .int y)]) (by decide +kernel) rfl (Nat.le_of_ble_eq_true rfl) rfl ?_
  intro p e s m args below meth c Q C hR
  refine q_aload_n C dX3_brought_0 rfl 0 rfl ?_
  refine q_iload_n C dX3_brought_1 rfl 1 rfl ?_
  refine q_callSi C (As := [.int y]) (rest := [.ref (σ.2.1 19)]) (kX3_isColour l σ V G y) 1 gX3_brought_X3_isColour rfl rfl rfl (by decide +kernel) ⟨Nat.le_of_ble_eq_true rfl, Nat.le_of_ble_eq_true rfl⟩ dX3_brought_2 rfl (Nat.le_of_ble_eq_true rfl) ⟨Nat.le_of_ble_eq_true rfl, Nat.le_of_ble_eq_true rfl⟩ (fun r_2 V_1 G_2 hq_2 => ?_)
  obtain ⟨hs_2, rfl, rfl⟩ := hq_2
  refine q_if_eq C 12 dX3_brought_5 (by decide) (fun c_5 => ?_) (fun c_5 => ?_)
  · skip
    have b_2 := (q_is_eq hs_2).mp c_5
    refine q_iconst C (nI 1) dX3_brought_12 (by decide) ?_
    refine q_put C (k := 19) (fi := 0) tyX3 tyX3_ok nmX3 (by omega) q_enMO rfl iX3_brought_X3 (by decide) (by decide +kernel) rfl rfl (by decide +kernel) (Nat.le_of_ble_eq_true rfl) (q_enMO |>.trans (by simp [q_up])) dX3_brought_13 ?_
    refine q_aload_n C dX3_brought_16 rfl 0 rfl ?_
    refine q_get C (k := 19) (fi := 0) (.int (nI 1)) (by omega) q_enMO rfl iX3_brought_X3 (by decide) (by decide +kernel) rfl (congrArg (fun z => some (Value.int z)) (q_up_self _ _ _ _)) dX3_brought_17 ?_
    refine q_if_le C 27 dX3_brought_20 (by decide) (fun c_20 => absurd c_20 (by decide)) (fun _ => ?_)
    refine q_iconst C (nI 0) dX3_brought_23 (by decide) ?_
    refine q_goto C 33 dX3_brought_24 (by decide) ?_
    refine hR _ _ _ _ _ _ _ ?_ rfl (Nat.le_of_ble_eq_true rfl) (Nat.le_of_ble_eq_true rfl) dX3_brought_33
    refine ⟨?_, rfl⟩
    exact q_mres_1 (q_c1_1 b_2) (by decide) rfl
  · skip
    have b_2 := (q_is_ne hs_2).mp c_5
    obtain ⟨cc, hcc, rfl⟩ := b_2
    refine q_iconst C (nI 0) dX3_brought_8 (by decide) ?_
    refine q_goto C 13 dX3_brought_9 (by decide) ?_
    refine q_put C (k := 19) (fi := 0) tyX3 tyX3_ok nmX3 (by omega) q_enMO rfl iX3_brought_X3 (by decide) (by decide +kernel) rfl rfl (by decide +kernel) (Nat.le_of_ble_eq_true rfl) (q_enMO |>.trans (by simp [q_up])) dX3_brought_13 ?_
    refine q_aload_n C dX3_brought_16 rfl 0 rfl ?_
    refine q_get C (k := 19) (fi := 0) (.int (nI 0)) (by omega) q_enMO rfl iX3_brought_X3 (by decide) (by decide +kernel) rfl (congrArg (fun z => some (Value.int z)) (q_up_self _ _ _ _)) dX3_brought_17 ?_
    refine q_if_le C 27 dX3_brought_20 (by decide) (fun _ => ?_) (fun c_20 => absurd c_20 (by decide))
    refine q_aload_n C dX3_brought_27 rfl 0 rfl ?_
    refine q_get C (k := 19) (fi := 3) (.ref (σ.2.1 71)) (by omega) q_enMO rfl iX3_brought_X3 (by decide) (by decide +kernel) rfl rfl dX3_brought_28 ?_
    refine q_iload_n C dX3_brought_31 rfl 1 rfl ?_
    refine q_ialdN C (k := 71) (n := 8) ⟨by decide, by decide, by decide⟩ (by omega) (by decide) dX3_brought_32 ?_
    refine q_stk (st' := [.int (V 71 cc)]) (congrArg (fun z => Value.int z :: []) (q_up_ne _ _ (by omega))) ?_
    refine hR _ _ _ _ _ _ _ ?_ rfl (Nat.le_of_ble_eq_true rfl) (Nat.le_of_ble_eq_true rfl) dX3_brought_33
    refine ⟨?_, rfl⟩
    simp only [q_n_nI (n := cc) (by omega)]
    exact q_mres_0 (q_c1_0 (q_ok_nI hcc)) rfl rfl
abbrev rX3_credits : Room := { frames := 3, cells := 0, slots := 0, locals := 54 }
theorem iX3_credits_X3 : ∀ w ∈ u_ws RX3 TX3 26, w ∈ wsX3_credits := by decide +kernel
set_option maxHeartbeats 4000000 in
set_option maxRecDepth 100000 in
/-- credits, the reference -/
theorem kX3_credits (l : Launch) (σ : q_E) (V : q_V) (G : q_G) (x : Int32) : q_Mi l yX3_credits wsX3_credits rX3_credits σ [.ref (σ.2.1 19), .int x] V G (fun r V' G' => q_mres V (q_c1 (q_ok 7 x)) (V 80 (q_n x)) (q_up V 19 0 (nI 0)) r V' ∧ G = G') 0 0 := by
  refine q_Mi_of (cc := cX3_credits) (maxL := 2) (lv := [(0, .ref (σ.2.1 19)), (1, .int x)]) (by decide +kernel) rfl (Nat.le_of_ble_eq_true rfl) rfl ?_
  intro p e s m args below meth c Q C hR
  refine q_aload_n C dX3_credits_0 rfl 0 rfl ?_
  refine q_iload_n C dX3_credits_1 rfl 1 rfl ?_
  refine q_callSi C (As := [.int x]) (rest := [.ref (σ.2.1 19)]) (kX3_isPerson l σ V G x) 1 gX3_credits_X3_isPerson rfl rfl rfl (by decide +kernel) ⟨Nat.le_of_ble_eq_true rfl, Nat.le_of_ble_eq_true rfl⟩ dX3_credits_2 rfl (Nat.le_of_ble_eq_true rfl) ⟨Nat.le_of_ble_eq_true rfl, Nat.le_of_ble_eq_true rfl⟩ (fun r_2 V_1 G_2 hq_2 => ?_)
  obtain ⟨hs_2, rfl, rfl⟩ := hq_2
  refine q_if_eq C 12 dX3_credits_5 (by decide) (fun c_5 => ?_) (fun c_5 => ?_)
  · skip
    have b_2 := (q_is_eq hs_2).mp c_5
    refine q_iconst C (nI 1) dX3_credits_12 (by decide) ?_
    refine q_put C (k := 19) (fi := 0) tyX3 tyX3_ok nmX3 (by omega) q_enMO rfl iX3_credits_X3 (by decide) (by decide +kernel) rfl rfl (by decide +kernel) (Nat.le_of_ble_eq_true rfl) (q_enMO |>.trans (by simp [q_up])) dX3_credits_13 ?_
    refine q_aload_n C dX3_credits_16 rfl 0 rfl ?_
    refine q_get C (k := 19) (fi := 0) (.int (nI 1)) (by omega) q_enMO rfl iX3_credits_X3 (by decide) (by decide +kernel) rfl (congrArg (fun z => some (Value.int z)) (q_up_self _ _ _ _)) dX3_credits_17 ?_
    refine q_if_le C 27 dX3_credits_20 (by decide) (fun c_20 => absurd c_20 (by decide)) (fun _ => ?_)
    refine q_iconst C (nI 0) dX3_credits_23 (by decide) ?_
    refine q_goto C 33 dX3_credits_24 (by decide) ?_
    refine hR _ _ _ _ _ _ _ ?_ rfl (Nat.le_of_ble_eq_true rfl) (Nat.le_of_ble_eq_true rfl) dX3_credits_33
    refine ⟨?_, rfl⟩
    exact q_mres_1 (q_c1_1 b_2) (by decide) rfl
  · skip
    have b_2 := (q_is_ne hs_2).mp c_5
    obtain ⟨a, ha, rfl⟩ := b_2
    refine q_iconst C (nI 0) dX3_credits_8 (by decide) ?_
    refine q_goto C 13 dX3_credits_9 (by decide) ?_
    refine q_put C (k := 19) (fi := 0) tyX3 tyX3_ok nmX3 (by omega) q_enMO rfl iX3_credits_X3 (by decide) (by decide +kernel) rfl rfl (by decide +kernel) (Nat.le_of_ble_eq_true rfl) (q_enMO |>.trans (by simp [q_up])) dX3_credits_13 ?_
    refine q_aload_n C dX3_credits_16 rfl 0 rfl ?_
    refine q_get C (k := 19) (fi := 0) (.int (nI 0)) (by omega) q_enMO rfl iX3_credits_X3 (by decide) (by decide +kernel) rfl (congrArg (fun z => some (Value.int z)) (q_up_self _ _ _ _)) dX3_credits_17 ?_
    refine q_if_le C 27 dX3_credits_20 (by decide) (fun _ => ?_) (fun c_20 => absurd c_20 (by decide))
    refine q_aload_n C dX3_credits_27 rfl 0 rfl ?_
    refine q_get C (k := 19) (fi := 15) (.ref (σ.2.1 80)) (by omega) q_enMO rfl iX3_credits_X3 (by decide) (by decide +kernel) rfl rfl dX3_credits_28 ?_
    refine q_iload_n C dX3_credits_31 rfl 1 rfl ?_
    refine q_ialdN C (k := 80) (n := 7) ⟨by decide, by decide, by decide⟩ (by omega) (by decide) dX3_credits_32 ?_
    refine q_stk (st' := [.int (V 80 a)]) (congrArg (fun z => Value.int z :: []) (q_up_ne _ _ (by omega))) ?_
    refine hR _ _ _ _ _ _ _ ?_ rfl (Nat.le_of_ble_eq_true rfl) (Nat.le_of_ble_eq_true rfl) dX3_credits_33
    refine ⟨?_, rfl⟩
    simp only [q_n_nI (n := a) (by omega)]
    exact q_mres_0 (q_c1_0 (q_ok_nI ha)) rfl rfl
abbrev rX3_draft : Room := { frames := 2, cells := 0, slots := 0, locals := 34 }
theorem iX3_draft_X3 : ∀ w ∈ u_ws RX3 TX3 26, w ∈ wsX3_draft := by decide +kernel
set_option maxHeartbeats 4000000 in
set_option maxRecDepth 100000 in
/-- draft, the reference -/
theorem kX3_draft (l : Launch) (σ : q_E) (V : q_V) (G : q_G) (x y : Int32) : q_Mi l yX3_draft wsX3_draft rX3_draft σ [.ref (σ.2.1 19), .int x, .int y] V G (fun r V' G' => q_mres V (q_c1 ((¬ x < nI 1 ∧ ¬ nI 8 < x) ∧ (¬ y < nI 1 ∧ ¬ nI 6 < y))) (x * y) (q_fill (q_up (q_up (q_up V 19 0 (nI 0)) 19 4 x) 19 5 y) 72 0 48) r V' ∧ G = G') 0 0 := by
  refine q_Mi_of (cc := cX3_draft) (maxL := 4) (lv := [(0, .ref (σ.2.1 19)), (1, .int x), (2, .int y)]) (by decide +kernel) rfl (Nat.le_of_ble_eq_true rfl) rfl ?_
  intro p e s m args below meth c Q C hR
  refine q_aload_n C dX3_draft_0 rfl 0 rfl ?_
  refine q_iload_n C dX3_draft_1 rfl 1 rfl ?_
  refine q_iconst C (nI 1) dX3_draft_2 (by decide) ?_
  refine q_bipush C (nI 8) dX3_draft_3 (by decide) ?_
  refine q_callSi C (As := [.int x, .int (nI 1), .int (nI 8)]) (rest := [.ref (σ.2.1 19)]) (kX3_isIn l σ V G x (nI 1) (nI 8)) 3 gX3_draft_X3_isIn rfl rfl rfl (by decide +kernel) ⟨Nat.le_of_ble_eq_true rfl, Nat.le_of_ble_eq_true rfl⟩ dX3_draft_5 rfl (Nat.le_of_ble_eq_true rfl) ⟨Nat.le_of_ble_eq_true rfl, Nat.le_of_ble_eq_true rfl⟩ (fun r_5 V_1 G_2 hq_5 => ?_)
  obtain ⟨hs_5, rfl, rfl⟩ := hq_5
  refine q_if_eq C 25 dX3_draft_8 (by decide) (fun c_8 => ?_) (fun c_8 => ?_)
  · skip
    have b_5 := (q_is_eq hs_5).mp c_8
    refine q_iconst C (nI 1) dX3_draft_25 (by decide) ?_
    refine q_put C (k := 19) (fi := 0) tyX3 tyX3_ok nmX3 (by omega) q_enMO rfl iX3_draft_X3 (by decide) (by decide +kernel) rfl rfl (by decide +kernel) (Nat.le_of_ble_eq_true rfl) (q_enMO |>.trans (by simp [q_up])) dX3_draft_26 ?_
    refine q_aload_n C dX3_draft_29 rfl 0 rfl ?_
    refine q_get C (k := 19) (fi := 0) (.int (nI 1)) (by omega) q_enMO rfl iX3_draft_X3 (by decide) (by decide +kernel) rfl (congrArg (fun z => some (Value.int z)) (q_up_self _ _ _ _)) dX3_draft_30 ?_
    refine q_if_le C 38 dX3_draft_33 (by decide) (fun c_33 => absurd c_33 (by decide)) (fun _ => ?_)
    refine q_iconst C (nI 0) dX3_draft_36 (by decide) ?_
    refine hR _ _ _ _ _ _ _ ?_ rfl (Nat.le_of_ble_eq_true rfl) (Nat.le_of_ble_eq_true rfl) dX3_draft_37
    refine ⟨?_, rfl⟩
    first | exact q_mres_1 (q_c1_1 (fun q => b_5 q.1)) (by decide) rfl | exact q_mres_1 (q_c1_1 (fun q => b_15 q.2)) (by decide) rfl
  · skip
    have b_5 := (q_is_ne hs_5).mp c_8
    refine q_iload_n C dX3_draft_11 rfl 2 rfl ?_
    refine q_iconst C (nI 1) dX3_draft_12 (by decide) ?_
    refine q_bipush C (nI 6) dX3_draft_13 (by decide) ?_
    refine q_callSi C (As := [.int y, .int (nI 1), .int (nI 6)]) (rest := [.ref (σ.2.1 19)]) (kX3_isIn l σ V G y (nI 1) (nI 6)) 3 gX3_draft_X3_isIn rfl rfl rfl (by decide +kernel) ⟨Nat.le_of_ble_eq_true rfl, Nat.le_of_ble_eq_true rfl⟩ dX3_draft_15 rfl (Nat.le_of_ble_eq_true rfl) ⟨Nat.le_of_ble_eq_true rfl, Nat.le_of_ble_eq_true rfl⟩ (fun r_15 V_3 G_4 hq_15 => ?_)
    obtain ⟨hs_15, rfl, rfl⟩ := hq_15
    refine q_if_eq C 25 dX3_draft_18 (by decide) (fun c_18 => ?_) (fun c_18 => ?_)
    · skip
      have b_15 := (q_is_eq hs_15).mp c_18
      refine q_iconst C (nI 1) dX3_draft_25 (by decide) ?_
      refine q_put C (k := 19) (fi := 0) tyX3 tyX3_ok nmX3 (by omega) q_enMO rfl iX3_draft_X3 (by decide) (by decide +kernel) rfl rfl (by decide +kernel) (Nat.le_of_ble_eq_true rfl) (q_enMO |>.trans (by simp [q_up])) dX3_draft_26 ?_
      refine q_aload_n C dX3_draft_29 rfl 0 rfl ?_
      refine q_get C (k := 19) (fi := 0) (.int (nI 1)) (by omega) q_enMO rfl iX3_draft_X3 (by decide) (by decide +kernel) rfl (congrArg (fun z => some (Value.int z)) (q_up_self _ _ _ _)) dX3_draft_30 ?_
      refine q_if_le C 38 dX3_draft_33 (by decide) (fun c_33 => absurd c_33 (by decide)) (fun _ => ?_)
      refine q_iconst C (nI 0) dX3_draft_36 (by decide) ?_
      refine hR _ _ _ _ _ _ _ ?_ rfl (Nat.le_of_ble_eq_true rfl) (Nat.le_of_ble_eq_true rfl) dX3_draft_37
      refine ⟨?_, rfl⟩
      first | exact q_mres_1 (q_c1_1 (fun q => b_5 q.1)) (by decide) rfl | exact q_mres_1 (q_c1_1 (fun q => b_15 q.2)) (by decide) rfl
    · skip
      have b_15 := (q_is_ne hs_15).mp c_18
      refine q_iconst C (nI 0) dX3_draft_21 (by decide) ?_
      refine q_goto C 26 dX3_draft_22 (by decide) ?_
      refine q_put C (k := 19) (fi := 0) tyX3 tyX3_ok nmX3 (by omega) q_enMO rfl iX3_draft_X3 (by decide) (by decide +kernel) rfl rfl (by decide +kernel) (Nat.le_of_ble_eq_true rfl) (q_enMO |>.trans (by simp [q_up])) dX3_draft_26 ?_
      refine q_aload_n C dX3_draft_29 rfl 0 rfl ?_
      refine q_get C (k := 19) (fi := 0) (.int (nI 0)) (by omega) q_enMO rfl iX3_draft_X3 (by decide) (by decide +kernel) rfl (congrArg (fun z => some (Value.int z)) (q_up_self _ _ _ _)) dX3_draft_30 ?_
      refine q_if_le C 38 dX3_draft_33 (by decide) (fun _ => ?_) (fun c_33 => absurd c_33 (by decide))
      refine q_aload_n C dX3_draft_38 rfl 0 rfl ?_
      refine q_iload_n C dX3_draft_39 rfl 1 rfl ?_
      refine q_put C (k := 19) (fi := 4) tyX3 tyX3_ok nmX3 (by omega) q_enMO rfl iX3_draft_X3 (by decide) (by decide +kernel) rfl rfl (by decide +kernel) (Nat.le_of_ble_eq_true rfl) (q_enMO |>.trans (by simp [q_up])) dX3_draft_40 ?_
      refine q_aload_n C dX3_draft_43 rfl 0 rfl ?_
      refine q_iload_n C dX3_draft_44 rfl 2 rfl ?_
      refine q_put C (k := 19) (fi := 5) tyX3 tyX3_ok nmX3 (by omega) q_enMO rfl iX3_draft_X3 (by decide) (by decide +kernel) rfl rfl (by decide +kernel) (Nat.le_of_ble_eq_true rfl) (q_enMO |>.trans (by simp [q_up])) dX3_draft_45 ?_
      refine q_iconst C (nI 0) dX3_draft_48 (by decide) ?_
      refine q_istore_n C [(3, .int (nI 0)), (0, .ref (σ.2.1 19)), (1, .int x), (2, .int y)] dX3_draft_49 rfl (by decide) rfl ?_
      have L_5 : ∀ (nL_5 : Nat) (j : Nat) (hj : j ≤ 48), 48 - j < nL_5 → q_W σ p l e rX3_draft s m args below meth c Q 4 0 0 (q_fill (q_up (q_up (q_up V 19 0 (nI 0)) 19 4 x) 19 5 y) 72 0 j) G [(3, .int (nI j)), (0, .ref (σ.2.1 19)), (1, .int x), (2, .int y)] 50 [] := by
        intro nL_5
        induction nL_5 with
        | zero => intro j hj h; exact absurd h (Nat.not_lt_zero _)
        | succ nL_5 ihL_5 =>
          intro j hj hmL_5
          refine q_iload_n C dX3_draft_50 rfl 0 rfl ?_
          refine q_bipush C (nI 48) dX3_draft_51 (by decide) ?_
          refine q_icmp_geN C 69 dX3_draft_53 (by decide) (by omega) (by omega) (fun c_53 => ?_) (fun c_53 => ?_)
          · skip
            refine q_iload_n C dX3_draft_69 rfl 2 rfl ?_
            refine q_iload_n C dX3_draft_70 rfl 3 rfl ?_
            refine q_imul C dX3_draft_71 ?_
            refine hR _ _ _ _ _ _ _ ?_ rfl (Nat.le_of_ble_eq_true rfl) (Nat.le_of_ble_eq_true rfl) dX3_draft_72
            obtain rfl : j = 48 := by omega
            refine ⟨?_, rfl⟩
            exact q_mres_0 (q_c1_0 ⟨b_5, b_15⟩) rfl rfl
          · skip
            refine q_aload_n C dX3_draft_56 rfl 1 rfl ?_
            refine q_get C (k := 19) (fi := 6) (.ref (σ.2.1 72)) (by omega) q_enMO rfl iX3_draft_X3 (by decide) (by decide +kernel) rfl rfl dX3_draft_57 ?_
            refine q_iload_n C dX3_draft_60 rfl 0 rfl ?_
            refine q_iconst C (nI 0) dX3_draft_61 (by decide) ?_
            refine q_iastN C (k := 72) (n := 48) ⟨by decide, by decide, by decide⟩ (by omega) (by decide) dX3_draft_62 ?_
            refine q_VG (V' := q_fill (q_up (q_up (q_up V 19 0 (nI 0)) 19 4 x) 19 5 y) 72 0 (j + 1)) (G' := G) (by exact q_fill_succ _ _ _ _) rfl ?_
            refine q_iincN C [(3, .int (nI (j + 1))), (0, .ref (σ.2.1 19)), (1, .int x), (2, .int y)] dX3_draft_63 0 rfl (by decide) rfl ?_
            refine q_goto C 50 dX3_draft_66 (by decide) ?_
            refine q_sub (lv' := [(3, .int (nI (j + 1))), (0, .ref (σ.2.1 19)), (1, .int x), (2, .int y)]) [0, 1, 2, 3] rfl ?_
            exact ihL_5 (j + 1) (by omega) (by omega)
      refine q_sub (lv' := [(3, .int (nI 0)), (0, .ref (σ.2.1 19)), (1, .int x), (2, .int y)]) [0, 1, 2, 3] rfl ?_
      refine q_VG (V' := q_fill (q_up (q_up (q_up V 19 0 (nI 0)) 19 4 x) 19 5 y) 72 0 0) (G' := G) ((q_fill_0 _ _ _).symm) rfl ?_
      exact L_5 _ 0 (Nat.zero_le _) (Nat.lt_succ_self _)
abbrev rX3_bead : Room := { frames := 3, cells := 0, slots := 0, locals := 54 }
theorem iX3_bead_X3 : ∀ w ∈ u_ws RX3 TX3 26, w ∈ wsX3_bead := by decide +kernel
set_option maxHeartbeats 4000000 in
set_option maxRecDepth 100000 in
/-- bead, the reference -/
theorem kX3_bead (l : Launch) (σ : q_E) (V : q_V) (G : q_G) {w h : Nat} (hdw : V 19 4 = nI w) (hdh : V 19 5 = nI h) (hw1 : 1 ≤ w) (hw8 : w ≤ 8) (hh1 : 1 ≤ h) (hh6 : h ≤ 6) (x y z : Int32) : q_Mi l yX3_bead wsX3_bead rX3_bead σ [.ref (σ.2.1 19), .int x, .int y, .int z] V G (fun r V' G' => q_mres V (q_c1 (q_ok w x ∧ q_ok h y ∧ q_ok 8 z)) (V 72 (8 * q_n y + q_n x)) (q_up (q_up V 19 0 (nI 0)) 72 (8 * q_n y + q_n x) z) r V' ∧ G = G') 0 0 := by
  refine q_Mi_of (cc := cX3_bead) (maxL := 6) (lv := [(0, .ref (σ.2.1 19)), (1, .int x), (2, .int y), (3, .int z)]) (by decide +kernel) rfl (Nat.le_of_ble_eq_true rfl) rfl ?_
  intro p e s m args below meth c Q C hR
  refine q_iload_n C dX3_bead_0 rfl 1 rfl ?_
  refine q_iconst C (nI 0) dX3_bead_1 (by decide) ?_
  refine q_aload_n C dX3_bead_2 rfl 0 rfl ?_
  refine q_get C (k := 19) (fi := 4) (.int (nI w)) (by omega) q_enMO rfl iX3_bead_X3 (by decide) (by decide +kernel) rfl (congrArg (fun z => some (Value.int z)) (hdw)) dX3_bead_3 ?_
  refine q_iconst C (nI 1) dX3_bead_6 (by decide) ?_
  refine q_isub C dX3_bead_7 ?_
  refine q_callSi C (As := [.int x, .int (nI 0), .int (nI w - nI 1)]) (rest := []) (kX3_isIn l σ V G x (nI 0) (nI w - nI 1)) 3 gX3_bead_X3_isIn rfl rfl rfl (by decide +kernel) ⟨Nat.le_of_ble_eq_true rfl, Nat.le_of_ble_eq_true rfl⟩ dX3_bead_8 rfl (Nat.le_of_ble_eq_true rfl) ⟨Nat.le_of_ble_eq_true rfl, Nat.le_of_ble_eq_true rfl⟩ (fun r_8 V_1 G_2 hq_8 => ?_)
  obtain ⟨hs_8, rfl, rfl⟩ := hq_8
  refine q_if_eq C 39 dX3_bead_11 (by decide) (fun c_11 => ?_) (fun c_11 => ?_)
  · skip
    have b_8 := (q_is_eq hs_8).mp c_11
    refine q_iconst C (nI 0) dX3_bead_39 (by decide) ?_
    refine q_istore C [(4, .int (nI 0)), (0, .ref (σ.2.1 19)), (1, .int x), (2, .int y), (3, .int z)] dX3_bead_40 (by decide) rfl ?_
    refine q_aload_n C dX3_bead_42 rfl 1 rfl ?_
    refine q_iload C dX3_bead_43 0 rfl ?_
    refine q_if_eq C 52 dX3_bead_45 (by decide) (fun _ => ?_) (fun c_45 => absurd c_45 (by decide))
    refine q_iconst C (nI 1) dX3_bead_52 (by decide) ?_
    refine q_put C (k := 19) (fi := 0) tyX3 tyX3_ok nmX3 (by omega) q_enMO rfl iX3_bead_X3 (by decide) (by decide +kernel) rfl rfl (by decide +kernel) (Nat.le_of_ble_eq_true rfl) (q_enMO |>.trans (by simp [q_up])) dX3_bead_53 ?_
    refine q_aload_n C dX3_bead_56 rfl 1 rfl ?_
    refine q_get C (k := 19) (fi := 0) (.int (nI 1)) (by omega) q_enMO rfl iX3_bead_X3 (by decide) (by decide +kernel) rfl (congrArg (fun z => some (Value.int z)) (q_up_self _ _ _ _)) dX3_bead_57 ?_
    refine q_if_le C 65 dX3_bead_60 (by decide) (fun c_60 => absurd c_60 (by decide)) (fun _ => ?_)
    refine q_iconst C (nI 0) dX3_bead_63 (by decide) ?_
    refine hR _ _ _ _ _ _ _ ?_ rfl (Nat.le_of_ble_eq_true rfl) (Nat.le_of_ble_eq_true rfl) dX3_bead_64
    refine ⟨?_, rfl⟩
    first | exact q_mres_1 (q_c1_1 (fun q => b_8 ((q_in_ok2 (by omega)).mpr q.1))) (by decide) rfl | exact q_mres_1 (q_c1_1 (fun q => b_22 ((q_in_ok2 (by omega)).mpr q.2.1))) (by decide) rfl | exact q_mres_1 (q_c1_1 (fun q => b_29 q.2.2)) (by decide) rfl
  · skip
    have b_8 := (q_is_ne hs_8).mp c_11
    refine q_iload_n C dX3_bead_14 rfl 2 rfl ?_
    refine q_iconst C (nI 0) dX3_bead_15 (by decide) ?_
    refine q_aload_n C dX3_bead_16 rfl 0 rfl ?_
    refine q_get C (k := 19) (fi := 5) (.int (nI h)) (by omega) q_enMO rfl iX3_bead_X3 (by decide) (by decide +kernel) rfl (congrArg (fun z => some (Value.int z)) (hdh)) dX3_bead_17 ?_
    refine q_iconst C (nI 1) dX3_bead_20 (by decide) ?_
    refine q_isub C dX3_bead_21 ?_
    refine q_callSi C (As := [.int y, .int (nI 0), .int (nI h - nI 1)]) (rest := []) (kX3_isIn l σ V G y (nI 0) (nI h - nI 1)) 3 gX3_bead_X3_isIn rfl rfl rfl (by decide +kernel) ⟨Nat.le_of_ble_eq_true rfl, Nat.le_of_ble_eq_true rfl⟩ dX3_bead_22 rfl (Nat.le_of_ble_eq_true rfl) ⟨Nat.le_of_ble_eq_true rfl, Nat.le_of_ble_eq_true rfl⟩ (fun r_22 V_3 G_4 hq_22 => ?_)
    obtain ⟨hs_22, rfl, rfl⟩ := hq_22
    refine q_if_eq C 39 dX3_bead_25 (by decide) (fun c_25 => ?_) (fun c_25 => ?_)
    · skip
      have b_22 := (q_is_eq hs_22).mp c_25
      refine q_iconst C (nI 0) dX3_bead_39 (by decide) ?_
      refine q_istore C [(4, .int (nI 0)), (0, .ref (σ.2.1 19)), (1, .int x), (2, .int y), (3, .int z)] dX3_bead_40 (by decide) rfl ?_
      refine q_aload_n C dX3_bead_42 rfl 1 rfl ?_
      refine q_iload C dX3_bead_43 0 rfl ?_
      refine q_if_eq C 52 dX3_bead_45 (by decide) (fun _ => ?_) (fun c_45 => absurd c_45 (by decide))
      refine q_iconst C (nI 1) dX3_bead_52 (by decide) ?_
      refine q_put C (k := 19) (fi := 0) tyX3 tyX3_ok nmX3 (by omega) q_enMO rfl iX3_bead_X3 (by decide) (by decide +kernel) rfl rfl (by decide +kernel) (Nat.le_of_ble_eq_true rfl) (q_enMO |>.trans (by simp [q_up])) dX3_bead_53 ?_
      refine q_aload_n C dX3_bead_56 rfl 1 rfl ?_
      refine q_get C (k := 19) (fi := 0) (.int (nI 1)) (by omega) q_enMO rfl iX3_bead_X3 (by decide) (by decide +kernel) rfl (congrArg (fun z => some (Value.int z)) (q_up_self _ _ _ _)) dX3_bead_57 ?_
      refine q_if_le C 65 dX3_bead_60 (by decide) (fun c_60 => absurd c_60 (by decide)) (fun _ => ?_)
      refine q_iconst C (nI 0) dX3_bead_63 (by decide) ?_
      refine hR _ _ _ _ _ _ _ ?_ rfl (Nat.le_of_ble_eq_true rfl) (Nat.le_of_ble_eq_true rfl) dX3_bead_64
      refine ⟨?_, rfl⟩
      first | exact q_mres_1 (q_c1_1 (fun q => b_8 ((q_in_ok2 (by omega)).mpr q.1))) (by decide) rfl | exact q_mres_1 (q_c1_1 (fun q => b_22 ((q_in_ok2 (by omega)).mpr q.2.1))) (by decide) rfl | exact q_mres_1 (q_c1_1 (fun q => b_29 q.2.2)) (by decide) rfl
    · skip
      have b_22 := (q_is_ne hs_22).mp c_25
      refine q_iload_n C dX3_bead_28 rfl 3 rfl ?_
      refine q_callSi C (As := [.int z]) (rest := []) (kX3_isColour l σ V G z) 1 gX3_bead_X3_isColour rfl rfl rfl (by decide +kernel) ⟨Nat.le_of_ble_eq_true rfl, Nat.le_of_ble_eq_true rfl⟩ dX3_bead_29 rfl (Nat.le_of_ble_eq_true rfl) ⟨Nat.le_of_ble_eq_true rfl, Nat.le_of_ble_eq_true rfl⟩ (fun r_29 V_5 G_6 hq_29 => ?_)
      obtain ⟨hs_29, rfl, rfl⟩ := hq_29
      refine q_if_eq C 39 dX3_bead_32 (by decide) (fun c_32 => ?_) (fun c_32 => ?_)
      · skip
        have b_29 := (q_is_eq hs_29).mp c_32
        refine q_iconst C (nI 0) dX3_bead_39 (by decide) ?_
        refine q_istore C [(4, .int (nI 0)), (0, .ref (σ.2.1 19)), (1, .int x), (2, .int y), (3, .int z)] dX3_bead_40 (by decide) rfl ?_
        refine q_aload_n C dX3_bead_42 rfl 1 rfl ?_
        refine q_iload C dX3_bead_43 0 rfl ?_
        refine q_if_eq C 52 dX3_bead_45 (by decide) (fun _ => ?_) (fun c_45 => absurd c_45 (by decide))
        refine q_iconst C (nI 1) dX3_bead_52 (by decide) ?_
        refine q_put C (k := 19) (fi := 0) tyX3 tyX3_ok nmX3 (by omega) q_enMO rfl iX3_bead_X3 (by decide) (by decide +kernel) rfl rfl (by decide +kernel) (Nat.le_of_ble_eq_true rfl) (q_enMO |>.trans (by simp [q_up])) dX3_bead_53 ?_
        refine q_aload_n C dX3_bead_56 rfl 1 rfl ?_
        refine q_get C (k := 19) (fi := 0) (.int (nI 1)) (by omega) q_enMO rfl iX3_bead_X3 (by decide) (by decide +kernel) rfl (congrArg (fun z => some (Value.int z)) (q_up_self _ _ _ _)) dX3_bead_57 ?_
        refine q_if_le C 65 dX3_bead_60 (by decide) (fun c_60 => absurd c_60 (by decide)) (fun _ => ?_)
        refine q_iconst C (nI 0) dX3_bead_63 (by decide) ?_
        refine hR _ _ _ _ _ _ _ ?_ rfl (Nat.le_of_ble_eq_true rfl) (Nat.le_of_ble_eq_true rfl) dX3_bead_64
        refine ⟨?_, rfl⟩
        first | exact q_mres_1 (q_c1_1 (fun q => b_8 ((q_in_ok2 (by omega)).mpr q.1))) (by decide) rfl | exact q_mres_1 (q_c1_1 (fun q => b_22 ((q_in_ok2 (by omega)).mpr q.2.1))) (by decide) rfl | exact q_mres_1 (q_c1_1 (fun q => b_29 q.2.2)) (by decide) rfl
      · skip
        have b_29 := (q_is_ne hs_29).mp c_32
        obtain ⟨a, ha, rfl⟩ := (q_in_ok2 (by omega)).mp b_8
        obtain ⟨cc, hcc, rfl⟩ := (q_in_ok2 (by omega)).mp b_22
        refine q_iconst C (nI 1) dX3_bead_35 (by decide) ?_
        refine q_goto C 40 dX3_bead_36 (by decide) ?_
        refine q_istore C [(4, .int (nI 1)), (0, .ref (σ.2.1 19)), (1, .int (nI a)), (2, .int (nI cc)), (3, .int z)] dX3_bead_40 (by decide) rfl ?_
        refine q_aload_n C dX3_bead_42 rfl 1 rfl ?_
        refine q_iload C dX3_bead_43 0 rfl ?_
        refine q_if_eq C 52 dX3_bead_45 (by decide) (fun c_45 => absurd c_45 (by decide)) (fun _ => ?_)
        refine q_iconst C (nI 0) dX3_bead_48 (by decide) ?_
        refine q_goto C 53 dX3_bead_49 (by decide) ?_
        refine q_put C (k := 19) (fi := 0) tyX3 tyX3_ok nmX3 (by omega) q_enMO rfl iX3_bead_X3 (by decide) (by decide +kernel) rfl rfl (by decide +kernel) (Nat.le_of_ble_eq_true rfl) (q_enMO |>.trans (by simp [q_up])) dX3_bead_53 ?_
        refine q_aload_n C dX3_bead_56 rfl 1 rfl ?_
        refine q_get C (k := 19) (fi := 0) (.int (nI 0)) (by omega) q_enMO rfl iX3_bead_X3 (by decide) (by decide +kernel) rfl (congrArg (fun z => some (Value.int z)) (q_up_self _ _ _ _)) dX3_bead_57 ?_
        refine q_if_le C 65 dX3_bead_60 (by decide) (fun _ => ?_) (fun c_60 => absurd c_60 (by decide))
        refine q_aload_n C dX3_bead_65 rfl 1 rfl ?_
        refine q_get C (k := 19) (fi := 6) (.ref (σ.2.1 72)) (by omega) q_enMO rfl iX3_bead_X3 (by decide) (by decide +kernel) rfl rfl dX3_bead_66 ?_
        refine q_bipush C (nI 8) dX3_bead_69 (by decide) ?_
        refine q_iload_n C dX3_bead_71 rfl 3 rfl ?_
        refine q_imulN C dX3_bead_72  ?_
        refine q_iload_n C dX3_bead_73 rfl 2 rfl ?_
        refine q_iaddN C dX3_bead_74  ?_
        refine q_ialdN C (k := 72) (n := 48) ⟨by decide, by decide, by decide⟩ (by omega) (by decide) dX3_bead_75 ?_
        refine q_stk (st' := [.int (V 72 ((8 * cc) + a))]) (congrArg (fun z => Value.int z :: []) (q_up_ne _ _ (by omega))) ?_
        refine q_istore C [(5, .int (V 72 ((8 * cc) + a))), (4, .int (nI 1)), (0, .ref (σ.2.1 19)), (1, .int (nI a)), (2, .int (nI cc)), (3, .int z)] dX3_bead_76 (by decide) rfl ?_
        refine q_aload_n C dX3_bead_78 rfl 2 rfl ?_
        refine q_get C (k := 19) (fi := 6) (.ref (σ.2.1 72)) (by omega) q_enMO rfl iX3_bead_X3 (by decide) (by decide +kernel) rfl rfl dX3_bead_79 ?_
        refine q_bipush C (nI 8) dX3_bead_82 (by decide) ?_
        refine q_iload_n C dX3_bead_84 rfl 4 rfl ?_
        refine q_imulN C dX3_bead_85  ?_
        refine q_iload_n C dX3_bead_86 rfl 3 rfl ?_
        refine q_iaddN C dX3_bead_87  ?_
        refine q_iload_n C dX3_bead_88 rfl 5 rfl ?_
        refine q_iastN C (k := 72) (n := 48) ⟨by decide, by decide, by decide⟩ (by omega) (by decide) dX3_bead_89 ?_
        refine q_iload C dX3_bead_90 0 rfl ?_
        refine hR _ _ _ _ _ _ _ ?_ rfl (Nat.le_of_ble_eq_true rfl) (Nat.le_of_ble_eq_true rfl) dX3_bead_92
        refine ⟨?_, rfl⟩
        simp only [q_n_nI (n := a) (by omega), q_n_nI (n := cc) (by omega)]
        exact q_mres_0 (q_c1_0 ⟨q_ok_nI ha, q_ok_nI hcc, b_29⟩) rfl rfl
abbrev rX3_patterns : Room := { frames := 1, cells := 0, slots := 0, locals := 12 }
theorem iX3_patterns_X3 : ∀ w ∈ u_ws RX3 TX3 26, w ∈ wsX3_patterns := by decide +kernel
set_option maxHeartbeats 4000000 in
set_option maxRecDepth 100000 in
/-- patterns, the reference -/
theorem kX3_patterns (l : Launch) (σ : q_E) (V : q_V) (G : q_G) : q_Mi l yX3_patterns wsX3_patterns rX3_patterns σ [.ref (σ.2.1 19)] V G (fun r V' G' => V 19 7 = r ∧ (q_up V 19 0 (nI 0)) = V' ∧ G = G') 0 0 := by
  refine q_Mi_of (cc := cX3_patterns) (maxL := 1) (lv := [(0, .ref (σ.2.1 19))]) (by decide +kernel) rfl (Nat.le_of_ble_eq_true rfl) rfl ?_
  intro p e s m args below meth c Q C hR
  refine q_aload_n C dX3_patterns_0 rfl 0 rfl ?_
  refine q_iconst C (nI 0) dX3_patterns_1 (by decide) ?_
  refine q_put C (k := 19) (fi := 0) tyX3 tyX3_ok nmX3 (by omega) q_enMO rfl iX3_patterns_X3 (by decide) (by decide +kernel) rfl rfl (by decide +kernel) (Nat.le_of_ble_eq_true rfl) (q_enMO |>.trans (by simp [q_up])) dX3_patterns_2 ?_
  refine q_aload_n C dX3_patterns_5 rfl 0 rfl ?_
  refine q_get C (k := 19) (fi := 7) (.int (V 19 7)) (by omega) q_enMO rfl iX3_patterns_X3 (by decide) (by decide +kernel) rfl (congrArg (fun z => some (Value.int z)) (q_up_ne _ _ (by omega))) dX3_patterns_6 ?_
  refine hR _ _ _ _ _ _ _ ?_ rfl (Nat.le_of_ble_eq_true rfl) (Nat.le_of_ble_eq_true rfl) dX3_patterns_9
  exact ⟨rfl, rfl, rfl⟩
abbrev rX3_origin : Room := { frames := 4, cells := 0, slots := 0, locals := 76 }
theorem iX3_origin_X3 : ∀ w ∈ u_ws RX3 TX3 26, w ∈ wsX3_origin := by decide +kernel
set_option maxHeartbeats 4000000 in
set_option maxRecDepth 100000 in
/-- origin, the reference -/
theorem kX3_origin (l : Launch) (σ : q_E) (V : q_V) (G : q_G) {n : Nat} (hn : V 19 7 = nI n) (hn2 : n ≤ 12) (x : Int32) : q_Mi l yX3_origin wsX3_origin rX3_origin σ [.ref (σ.2.1 19), .int x] V G (fun r V' G' => q_mres V (q_c1 (q_ok n x)) (V 77 (q_n x)) (q_up V 19 0 (nI 0)) r V' ∧ G = G') 0 0 := by
  refine q_Mi_of (cc := cX3_origin) (maxL := 2) (lv := [(0, .ref (σ.2.1 19)), (1, .int x)]) (by decide +kernel) rfl (Nat.le_of_ble_eq_true rfl) rfl ?_
  intro p e s m args below meth c Q C hR
  refine q_aload_n C dX3_origin_0 rfl 0 rfl ?_
  refine q_iload_n C dX3_origin_1 rfl 1 rfl ?_
  refine q_callVi C (As := [.int x]) (rest := []) (k := 19) (by omega) q_enMO rfl rfl (kX3_asks l σ V G hn hn2 x) 1 gX3_origin_X3_asks rfl rfl rfl (by decide +kernel) ⟨Nat.le_of_ble_eq_true rfl, Nat.le_of_ble_eq_true rfl⟩ dX3_origin_2 rfl (Nat.le_of_ble_eq_true rfl) ⟨Nat.le_of_ble_eq_true rfl, Nat.le_of_ble_eq_true rfl⟩ (fun r_2 V_1 G_2 hq_2 => ?_)
  obtain ⟨ha_2, rfl⟩ := hq_2
  refine q_if_eq C 17 dX3_origin_5 (by decide) (fun c_5 => ?_) (fun c_5 => ?_)
  · skip
    rcases ha_2 with ⟨b_2, e2, e3⟩ | ⟨b_2, e2, e3⟩
    · rw [c_5] at e2; exact absurd e2 (by decide)
    subst e3
    refine q_iconst C (nI 0) dX3_origin_17 (by decide) ?_
    refine hR _ _ _ _ _ _ _ ?_ rfl (Nat.le_of_ble_eq_true rfl) (Nat.le_of_ble_eq_true rfl) dX3_origin_18
    refine ⟨?_, rfl⟩
    exact q_mres_1 (q_c1_1 b_2) (by decide) rfl
  · skip
    rcases ha_2 with ⟨b_2, e2, e3⟩ | ⟨b_2, e2, e3⟩
    rotate_left
    · exact absurd e2.symm c_5
    subst e3
    obtain ⟨a, ha, rfl⟩ := b_2
    refine q_aload_n C dX3_origin_8 rfl 0 rfl ?_
    refine q_get C (k := 19) (fi := 12) (.ref (σ.2.1 77)) (by omega) q_enMO rfl iX3_origin_X3 (by decide) (by decide +kernel) rfl rfl dX3_origin_9 ?_
    refine q_iload_n C dX3_origin_12 rfl 1 rfl ?_
    refine q_ialdN C (k := 77) (n := 12) ⟨by decide, by decide, by decide⟩ (by omega) (by decide) dX3_origin_13 ?_
    refine q_goto C 18 dX3_origin_14 (by decide) ?_
    refine hR _ _ _ _ _ _ _ ?_ rfl (Nat.le_of_ble_eq_true rfl) (Nat.le_of_ble_eq_true rfl) dX3_origin_18
    refine ⟨?_, rfl⟩
    simp only [q_n_nI (n := a) (by omega)]
    exact q_mres_0 (q_c1_0 (q_ok_nI ha)) rfl rfl
abbrev rX3_needs : Room := { frames := 3, cells := 0, slots := 0, locals := 59 }
theorem iX3_needs_X3 : ∀ w ∈ u_ws RX3 TX3 26, w ∈ wsX3_needs := by decide +kernel
set_option maxHeartbeats 4000000 in
set_option maxRecDepth 100000 in
/-- needs, the reference -/
theorem kX3_needs (l : Launch) (σ : q_E) (V : q_V) (G : q_G) {n : Nat} (hn : V 19 7 = nI n) (hn2 : n ≤ 12) (hp : q_mpats V n) (x y : Int32) : q_Mi l yX3_needs wsX3_needs rX3_needs σ [.ref (σ.2.1 19), .int x, .int y] V G (fun r V' G' => q_mres V (q_c1 (q_ok n x ∧ q_ok 8 y)) (nI (q_mneeds V (q_n x) y)) (q_up V 19 0 (nI 0)) r V' ∧ G = G') 0 0 := by
  refine q_Mi_of (cc := cX3_needs) (maxL := 3) (lv := [(0, .ref (σ.2.1 19)), (1, .int x), (2, .int y)]) (by decide +kernel) rfl (Nat.le_of_ble_eq_true rfl) rfl ?_
  intro p e s m args below meth c Q C hR
  refine q_aload_n C dX3_needs_0 rfl 0 rfl ?_
  refine q_aload_n C dX3_needs_1 rfl 0 rfl ?_
  refine q_iload_n C dX3_needs_2 rfl 1 rfl ?_
  refine q_callVi C (As := [.int x]) (rest := [.ref (σ.2.1 19)]) (k := 19) (by omega) q_enMO rfl rfl (kX3_isPattern l σ V G hn hn2 x) 1 gX3_needs_X3_isPattern rfl rfl rfl (by decide +kernel) ⟨Nat.le_of_ble_eq_true rfl, Nat.le_of_ble_eq_true rfl⟩ dX3_needs_3 rfl (Nat.le_of_ble_eq_true rfl) ⟨Nat.le_of_ble_eq_true rfl, Nat.le_of_ble_eq_true rfl⟩ (fun r_3 V_1 G_2 hq_3 => ?_)
  obtain ⟨hs_3, rfl, rfl⟩ := hq_3
  refine q_if_eq C 20 dX3_needs_6 (by decide) (fun c_6 => ?_) (fun c_6 => ?_)
  · skip
    have b_3 := (q_is_eq hs_3).mp c_6
    refine q_iconst C (nI 1) dX3_needs_20 (by decide) ?_
    refine q_put C (k := 19) (fi := 0) tyX3 tyX3_ok nmX3 (by omega) q_enMO rfl iX3_needs_X3 (by decide) (by decide +kernel) rfl rfl (by decide +kernel) (Nat.le_of_ble_eq_true rfl) (q_enMO |>.trans (by simp [q_up])) dX3_needs_21 ?_
    refine q_aload_n C dX3_needs_24 rfl 0 rfl ?_
    refine q_get C (k := 19) (fi := 0) (.int (nI 1)) (by omega) q_enMO rfl iX3_needs_X3 (by decide) (by decide +kernel) rfl (congrArg (fun z => some (Value.int z)) (q_up_self _ _ _ _)) dX3_needs_25 ?_
    refine q_if_le C 35 dX3_needs_28 (by decide) (fun c_28 => absurd c_28 (by decide)) (fun _ => ?_)
    refine q_iconst C (nI 0) dX3_needs_31 (by decide) ?_
    refine q_goto C 41 dX3_needs_32 (by decide) ?_
    refine hR _ _ _ _ _ _ _ ?_ rfl (Nat.le_of_ble_eq_true rfl) (Nat.le_of_ble_eq_true rfl) dX3_needs_41
    refine ⟨?_, rfl⟩
    first | exact q_mres_1 (q_c1_1 (fun q => b_3 q.1)) (by decide) rfl | exact q_mres_1 (q_c1_1 (fun q => b_10 q.2)) (by decide) rfl
  · skip
    have b_3 := (q_is_ne hs_3).mp c_6
    refine q_iload_n C dX3_needs_9 rfl 2 rfl ?_
    refine q_callSi C (As := [.int y]) (rest := [.ref (σ.2.1 19)]) (kX3_isColour l σ V G y) 1 gX3_needs_X3_isColour rfl rfl rfl (by decide +kernel) ⟨Nat.le_of_ble_eq_true rfl, Nat.le_of_ble_eq_true rfl⟩ dX3_needs_10 rfl (Nat.le_of_ble_eq_true rfl) ⟨Nat.le_of_ble_eq_true rfl, Nat.le_of_ble_eq_true rfl⟩ (fun r_10 V_3 G_4 hq_10 => ?_)
    obtain ⟨hs_10, rfl, rfl⟩ := hq_10
    refine q_if_eq C 20 dX3_needs_13 (by decide) (fun c_13 => ?_) (fun c_13 => ?_)
    · skip
      have b_10 := (q_is_eq hs_10).mp c_13
      refine q_iconst C (nI 1) dX3_needs_20 (by decide) ?_
      refine q_put C (k := 19) (fi := 0) tyX3 tyX3_ok nmX3 (by omega) q_enMO rfl iX3_needs_X3 (by decide) (by decide +kernel) rfl rfl (by decide +kernel) (Nat.le_of_ble_eq_true rfl) (q_enMO |>.trans (by simp [q_up])) dX3_needs_21 ?_
      refine q_aload_n C dX3_needs_24 rfl 0 rfl ?_
      refine q_get C (k := 19) (fi := 0) (.int (nI 1)) (by omega) q_enMO rfl iX3_needs_X3 (by decide) (by decide +kernel) rfl (congrArg (fun z => some (Value.int z)) (q_up_self _ _ _ _)) dX3_needs_25 ?_
      refine q_if_le C 35 dX3_needs_28 (by decide) (fun c_28 => absurd c_28 (by decide)) (fun _ => ?_)
      refine q_iconst C (nI 0) dX3_needs_31 (by decide) ?_
      refine q_goto C 41 dX3_needs_32 (by decide) ?_
      refine hR _ _ _ _ _ _ _ ?_ rfl (Nat.le_of_ble_eq_true rfl) (Nat.le_of_ble_eq_true rfl) dX3_needs_41
      refine ⟨?_, rfl⟩
      first | exact q_mres_1 (q_c1_1 (fun q => b_3 q.1)) (by decide) rfl | exact q_mres_1 (q_c1_1 (fun q => b_10 q.2)) (by decide) rfl
    · skip
      have b_10 := (q_is_ne hs_10).mp c_13
      obtain ⟨a, ha, rfl⟩ := b_3
      refine q_iconst C (nI 0) dX3_needs_16 (by decide) ?_
      refine q_goto C 21 dX3_needs_17 (by decide) ?_
      refine q_put C (k := 19) (fi := 0) tyX3 tyX3_ok nmX3 (by omega) q_enMO rfl iX3_needs_X3 (by decide) (by decide +kernel) rfl rfl (by decide +kernel) (Nat.le_of_ble_eq_true rfl) (q_enMO |>.trans (by simp [q_up])) dX3_needs_21 ?_
      refine q_aload_n C dX3_needs_24 rfl 0 rfl ?_
      refine q_get C (k := 19) (fi := 0) (.int (nI 0)) (by omega) q_enMO rfl iX3_needs_X3 (by decide) (by decide +kernel) rfl (congrArg (fun z => some (Value.int z)) (q_up_self _ _ _ _)) dX3_needs_25 ?_
      refine q_if_le C 35 dX3_needs_28 (by decide) (fun _ => ?_) (fun c_28 => absurd c_28 (by decide))
      refine q_aload_n C dX3_needs_35 rfl 0 rfl ?_
      refine q_iload_n C dX3_needs_36 rfl 1 rfl ?_
      refine q_iload_n C dX3_needs_37 rfl 2 rfl ?_
      refine q_callVi C (As := [.int (nI a), .int y]) (rest := []) (k := 19) (by omega) q_enMO rfl rfl (kX3_needsOf l σ (q_up V 19 0 (nI 0)) G (pa := a) (by omega) (hp a ha) y) 2 gX3_needs_X3_needsOf rfl rfl rfl (by decide +kernel) ⟨Nat.le_of_ble_eq_true rfl, Nat.le_of_ble_eq_true rfl⟩ dX3_needs_38 rfl (Nat.le_of_ble_eq_true rfl) ⟨Nat.le_of_ble_eq_true rfl, Nat.le_of_ble_eq_true rfl⟩ (fun r_38 V_5 G_6 hq_38 => ?_)
      obtain ⟨rfl, rfl, rfl⟩ := hq_38
      refine hR _ _ _ _ _ _ _ ?_ rfl (Nat.le_of_ble_eq_true rfl) (Nat.le_of_ble_eq_true rfl) dX3_needs_41
      refine ⟨?_, rfl⟩
      simp only [q_n_nI (n := a) (by omega)]
      exact q_mres_0 (q_c1_0 ⟨q_ok_nI ha, b_10⟩) rfl rfl
