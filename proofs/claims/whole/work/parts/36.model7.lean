abbrev rX3_canGive : Room := { frames := 1, cells := 0, slots := 0, locals := 12 }
theorem iX3_canGive_X3 : ∀ w ∈ u_ws RX3 TX3 26, w ∈ wsX3_canGive := by decide +kernel
set_option maxHeartbeats 4000000 in
set_option maxRecDepth 100000 in
/-- canGive -/
theorem kX3_canGive (l : Launch) (σ : q_E) (V : q_V) (G : q_G) {a : Nat} (ha : a < 7) (hw : V 81 a = -1 ∨ ∃ c, c < 8 ∧ V 81 a = nI c) : q_Mi l yX3_canGive wsX3_canGive rX3_canGive σ [.ref (σ.2.1 19), .int (nI a)] V G (fun r V' G' => q_is (q_mrd V a) r ∧ V = V' ∧ G = G') 0 0 := by
  refine q_Mi_of (cc := cX3_canGive) (maxL := 2) (lv := [(0, .ref (σ.2.1 19)), (1, .int (nI a))]) (by decide +kernel) rfl (Nat.le_of_ble_eq_true rfl) rfl ?_
  intro p e s m args below meth c Q C hR
  refine q_aload_n C dX3_canGive_0 rfl 0 rfl ?_
  refine q_get C (k := 19) (fi := 16) (.ref (σ.2.1 81)) (by omega) q_enMO rfl iX3_canGive_X3 (by decide) (by decide +kernel) rfl rfl dX3_canGive_1 ?_
  refine q_iload_n C dX3_canGive_4 rfl 1 rfl ?_
  refine q_ialdN C (k := 81) (n := 7) ⟨by decide, by decide, by decide⟩ (by omega) (by decide) dX3_canGive_5 ?_
  refine q_iconst C ((-1)) dX3_canGive_6 (by decide) ?_
  refine q_icmp_eq C 33 dX3_canGive_7 (by decide) (fun c_7 => ?_) (fun c_7 => ?_)
  · skip
    refine q_iconst C (nI 0) dX3_canGive_33 (by decide) ?_
    refine hR _ _ _ _ _ _ _ ?_ (by first | rfl | decide) (Nat.le_of_ble_eq_true rfl) (Nat.le_of_ble_eq_true rfl) dX3_canGive_34
    refine ⟨?_, rfl, rfl⟩
    first | exact q_is_n (fun z => z.1 c_7) | exact q_is_n (fun z => absurd z.2 (by rw [he9, q_n_nI (by omega)]; exact Int32.not_lt.mpr c_26))
  · skip
    obtain ⟨c9, hc9, he9⟩ := hw.resolve_left c_7
    refine q_aload_n C dX3_canGive_10 rfl 0 rfl ?_
    refine q_get C (k := 19) (fi := 1) (.ref (σ.2.1 69)) (by omega) q_enMO rfl iX3_canGive_X3 (by decide) (by decide +kernel) rfl rfl dX3_canGive_11 ?_
    refine q_bipush C (nI 8) dX3_canGive_14 (by decide) ?_
    refine q_iload_n C dX3_canGive_16 rfl 1 rfl ?_
    refine q_imulN C dX3_canGive_17  ?_
    refine q_aload_n C dX3_canGive_18 rfl 0 rfl ?_
    refine q_get C (k := 19) (fi := 16) (.ref (σ.2.1 81)) (by omega) q_enMO rfl iX3_canGive_X3 (by decide) (by decide +kernel) rfl rfl dX3_canGive_19 ?_
    refine q_iload_n C dX3_canGive_22 rfl 1 rfl ?_
    refine q_ialdN C (k := 81) (n := 7) ⟨by decide, by decide, by decide⟩ (by omega) (by decide) dX3_canGive_23 ?_
    refine q_stk (st' := [.int (nI c9), .int (nI (8 * a)), .ref (σ.2.1 69)]) (congrArg (fun z => Value.int z :: [.int (nI (8 * a)), .ref (σ.2.1 69)]) (he9)) ?_
    refine q_iaddN C dX3_canGive_24  ?_
    refine q_ialdN C (k := 69) (n := 56) ⟨by decide, by decide, by decide⟩ (by omega) (by decide) dX3_canGive_25 ?_
    refine q_if_le C 33 dX3_canGive_26 (by decide) (fun c_26 => ?_) (fun c_26 => ?_)
    · skip
      refine q_iconst C (nI 0) dX3_canGive_33 (by decide) ?_
      refine hR _ _ _ _ _ _ _ ?_ (by first | rfl | decide) (Nat.le_of_ble_eq_true rfl) (Nat.le_of_ble_eq_true rfl) dX3_canGive_34
      refine ⟨?_, rfl, rfl⟩
      first | exact q_is_n (fun z => z.1 c_7) | exact q_is_n (fun z => absurd z.2 (by rw [he9, q_n_nI (by omega)]; exact Int32.not_lt.mpr c_26))
    · skip
      refine q_iconst C (nI 1) dX3_canGive_29 (by decide) ?_
      refine q_goto C 34 dX3_canGive_30 (by decide) ?_
      refine hR _ _ _ _ _ _ _ ?_ (by first | rfl | decide) (Nat.le_of_ble_eq_true rfl) (Nat.le_of_ble_eq_true rfl) dX3_canGive_34
      refine ⟨?_, rfl, rfl⟩
      exact q_is_y ⟨c_7, by rw [he9, q_n_nI (by omega)]; exact Int32.not_le.mp c_26⟩
abbrev rX3_isRow : Room := { frames := 2, cells := 0, slots := 0, locals := 33 }
theorem iX3_isRow_X3 : ∀ w ∈ u_ws RX3 TX3 26, w ∈ wsX3_isRow := by decide +kernel
set_option maxHeartbeats 4000000 in
set_option maxRecDepth 100000 in
/-- isRow -/
theorem kX3_isRow (l : Launch) (σ : q_E) (V : q_V) (G : q_G) (hw : ∀ a, a < 7 → V 81 a = -1 ∨ ∃ c, c < 8 ∧ V 81 a = nI c) {rs : List Nat} {k : Nat} (hrl : rs.length < 7) (hr7 : ∀ i, i < rs.length → rs.getD i 0 < 7) (hk : k < 7) (ht : ∀ i, i < rs.length → V 84 i = nI (rs.getD i 0)) (htk : V 84 rs.length = nI k) {rd : Nat → Prop} {gt : Nat → Nat → Prop} (hrd : q_mrd V = rd) (hgt : q_mgt V = gt) : q_Mi l yX3_isRow wsX3_isRow rX3_isRow σ [.ref (σ.2.1 19), .int (nI (rs.length + 1))] V G (fun r V' G' => q_is (q_row rd gt rs k) r ∧ V = V' ∧ G = G') 0 0 := by
  refine q_Mi_of (cc := cX3_isRow) (maxL := 5) (lv := [(0, .ref (σ.2.1 19)), (1, .int (nI (rs.length + 1)))]) (by decide +kernel) rfl (Nat.le_of_ble_eq_true rfl) rfl ?_
  intro p e s m args below meth c Q C hR
  refine q_aload_n C dX3_isRow_0 rfl 0 rfl ?_
  refine q_get C (k := 19) (fi := 19) (.ref (σ.2.1 84)) (by omega) q_enMO rfl iX3_isRow_X3 (by decide) (by decide +kernel) rfl rfl dX3_isRow_1 ?_
  refine q_iload_n C dX3_isRow_4 rfl 1 rfl ?_
  refine q_iconst C (nI 1) dX3_isRow_5 (by decide) ?_
  refine q_isubN C dX3_isRow_6 (by omega) ?_
  refine q_stk (st' := [.int (nI rs.length), .ref (σ.2.1 84)]) (congrArg (fun z => Value.int z :: [.ref (σ.2.1 84)]) (congrArg nI ((Nat.add_sub_cancel _ _)))) ?_
  refine q_ialdN C (k := 84) (n := 7) ⟨by decide, by decide, by decide⟩ (by omega) (by decide) dX3_isRow_7 ?_
  refine q_stk (st' := [.int (nI k)]) (congrArg (fun z => Value.int z :: []) (htk)) ?_
  refine q_istore_n C [(2, .int (nI k)), (0, .ref (σ.2.1 19)), (1, .int (nI (rs.length + 1)))] dX3_isRow_8 rfl (by decide) rfl ?_
  have J_1 : ∀ (z : Int32) (hz : (z = 1 ∧ rd k ∧ (rs.length = 0 ∨ rs.getD 0 0 ≤ k)) ∨ (z = 0 ∧ ¬ q_row rd gt rs k)), q_W σ p l e rX3_isRow s m args below meth c Q 5 0 0 V G [(3, .int z), (0, .ref (σ.2.1 19)), (1, .int (nI (rs.length + 1))), (2, .int (nI k))] 33 [] := by
    intro z hz
    refine q_iconst C (nI 0) dX3_isRow_33 (by decide) ?_
    refine q_istore C [(4, .int (nI 0)), (3, .int z), (0, .ref (σ.2.1 19)), (1, .int (nI (rs.length + 1))), (2, .int (nI k))] dX3_isRow_34 (by decide) rfl ?_
    have L_2 : ∀ (nL_2 : Nat) (j : Nat) (z : Int32) (hj : j ≤ rs.length) (hz : (z = 1 ∧ rd k ∧ (rs.length = 0 ∨ rs.getD 0 0 ≤ k) ∧ ∀ i, i < j → rs.getD i 0 ≠ k) ∨ (z = 0 ∧ ¬ q_row rd gt rs k)), rs.length - j < nL_2 → q_W σ p l e rX3_isRow s m args below meth c Q 5 0 0 V G [(3, .int z), (4, .int (nI j)), (0, .ref (σ.2.1 19)), (1, .int (nI (rs.length + 1))), (2, .int (nI k))] 36 [] := by
      intro nL_2
      induction nL_2 with
      | zero => intro j z hj hz h; exact absurd h (Nat.not_lt_zero _)
      | succ nL_2 ihL_2 =>
        intro j z hj hz hmL_2
        refine q_iload C dX3_isRow_36 1 rfl ?_
        refine q_iload_n C dX3_isRow_38 rfl 3 rfl ?_
        refine q_iconst C (nI 1) dX3_isRow_39 (by decide) ?_
        refine q_isubN C dX3_isRow_40 (by omega) ?_
        refine q_stk (st' := [.int (nI rs.length), .int (nI j)]) (congrArg (fun z => Value.int z :: [.int (nI j)]) (congrArg nI ((Nat.add_sub_cancel _ _)))) ?_
        refine q_icmp_geN C 71 dX3_isRow_41 (by decide) (by omega) (by omega) (fun c_41 => ?_) (fun c_41 => ?_)
        · skip
          refine q_iload_n C dX3_isRow_71 rfl 0 rfl ?_
          refine q_if_eq C 106 dX3_isRow_72 (by decide) (fun c_72 => ?_) (fun c_72 => ?_)
          · skip
            have hz5 := hz.resolve_left (fun q => by rw [q.1] at c_72; exact absurd c_72 (by decide))
            refine q_iconst C (nI 0) dX3_isRow_106 (by decide) ?_
            refine hR _ _ _ _ _ _ _ ?_ (by first | rfl | decide) (Nat.le_of_ble_eq_true rfl) (Nat.le_of_ble_eq_true rfl) dX3_isRow_107
            refine ⟨?_, rfl, rfl⟩
            first | exact q_is_n hz5.2 | exact q_is_n (fun q => c_99 (by have := q_row_gt q (by omega); rw [← hgt] at this; exact this))
          · skip
            have hz4 := hz.resolve_right (fun q => c_72 q.1)
            refine q_iload_n C dX3_isRow_75 rfl 3 rfl ?_
            refine q_iconst C (nI 1) dX3_isRow_76 (by decide) ?_
            refine q_icmp_eqN C 102 dX3_isRow_77 (by decide) (by omega) (by omega) (fun c_77 => ?_) (fun c_77 => ?_)
            · skip
              refine q_iconst C (nI 1) dX3_isRow_102 (by decide) ?_
              refine q_goto C 107 dX3_isRow_103 (by decide) ?_
              refine hR _ _ _ _ _ _ _ ?_ (by first | rfl | decide) (Nat.le_of_ble_eq_true rfl) (Nat.le_of_ble_eq_true rfl) dX3_isRow_107
              refine ⟨?_, rfl, rfl⟩
              first | exact q_is_y (q_row_1 hz4.2.1 (by omega)) | exact q_is_y (q_row_2 hz4.2.1 (hz4.2.2.1.resolve_left (by omega)) (fun i hi => hz4.2.2.2 i (by omega)) (by omega) (by rw [← hgt]; exact c_99))
            · skip
              have hr17 := hr7 (rs.length - 1) (by omega)
              refine q_aload_n C dX3_isRow_80 rfl 2 rfl ?_
              refine q_get C (k := 19) (fi := 17) (.ref (σ.2.1 82)) (by omega) q_enMO rfl iX3_isRow_X3 (by decide) (by decide +kernel) rfl rfl dX3_isRow_81 ?_
              refine q_aload_n C dX3_isRow_84 rfl 2 rfl ?_
              refine q_get C (k := 19) (fi := 19) (.ref (σ.2.1 84)) (by omega) q_enMO rfl iX3_isRow_X3 (by decide) (by decide +kernel) rfl rfl dX3_isRow_85 ?_
              refine q_iload_n C dX3_isRow_88 rfl 3 rfl ?_
              refine q_iconst C (nI 2) dX3_isRow_89 (by decide) ?_
              refine q_isubN C dX3_isRow_90 (by omega) ?_
              refine q_stk (st' := [.int (nI ((rs.length - 1))), .ref (σ.2.1 84), .ref (σ.2.1 82)]) (congrArg (fun z => Value.int z :: [.ref (σ.2.1 84), .ref (σ.2.1 82)]) (congrArg nI (by omega))) ?_
              refine q_ialdN C (k := 84) (n := 7) ⟨by decide, by decide, by decide⟩ (by omega) (by decide) dX3_isRow_91 ?_
              refine q_stk (st' := [.int (nI ((rs.getD (rs.length - 1) 0))), .ref (σ.2.1 82)]) (congrArg (fun z => Value.int z :: [.ref (σ.2.1 82)]) (ht _ (by omega))) ?_
              refine q_ialdN C (k := 82) (n := 7) ⟨by decide, by decide, by decide⟩ (by omega) (by decide) dX3_isRow_92 ?_
              refine q_aload_n C dX3_isRow_93 rfl 2 rfl ?_
              refine q_get C (k := 19) (fi := 16) (.ref (σ.2.1 81)) (by omega) q_enMO rfl iX3_isRow_X3 (by decide) (by decide +kernel) rfl rfl dX3_isRow_94 ?_
              refine q_iload_n C dX3_isRow_97 rfl 4 rfl ?_
              refine q_ialdN C (k := 81) (n := 7) ⟨by decide, by decide, by decide⟩ (by omega) (by decide) dX3_isRow_98 ?_
              refine q_icmp_ne C 106 dX3_isRow_99 (by decide) (fun c_99 => ?_) (fun c_99 => ?_)
              · skip
                refine q_iconst C (nI 0) dX3_isRow_106 (by decide) ?_
                refine hR _ _ _ _ _ _ _ ?_ (by first | rfl | decide) (Nat.le_of_ble_eq_true rfl) (Nat.le_of_ble_eq_true rfl) dX3_isRow_107
                refine ⟨?_, rfl, rfl⟩
                first | exact q_is_n hz5.2 | exact q_is_n (fun q => c_99 (by have := q_row_gt q (by omega); rw [← hgt] at this; exact this))
              · skip
                refine q_iconst C (nI 1) dX3_isRow_102 (by decide) ?_
                refine q_goto C 107 dX3_isRow_103 (by decide) ?_
                refine hR _ _ _ _ _ _ _ ?_ (by first | rfl | decide) (Nat.le_of_ble_eq_true rfl) (Nat.le_of_ble_eq_true rfl) dX3_isRow_107
                refine ⟨?_, rfl, rfl⟩
                first | exact q_is_y (q_row_1 hz4.2.1 (by omega)) | exact q_is_y (q_row_2 hz4.2.1 (hz4.2.2.1.resolve_left (by omega)) (fun i hi => hz4.2.2.2 i (by omega)) (by omega) (by rw [← hgt]; exact c_99))
        · skip
          have hj7 := hr7 j c_41
          refine q_iload_n C dX3_isRow_44 rfl 0 rfl ?_
          refine q_if_eq C 63 dX3_isRow_45 (by decide) (fun c_45 => ?_) (fun c_45 => ?_)
          · skip
            have hz3 := hz.resolve_left (fun q => by rw [q.1] at c_45; exact absurd c_45 (by decide))
            refine q_iconst C (nI 0) dX3_isRow_63 (by decide) ?_
            refine q_istore_n C [(3, .int (nI 0)), (4, .int (nI j)), (0, .ref (σ.2.1 19)), (1, .int (nI (rs.length + 1))), (2, .int (nI k))] dX3_isRow_64 rfl (by decide) rfl ?_
            refine q_iincN C [(4, .int (nI (j + 1))), (3, .int (nI 0)), (0, .ref (σ.2.1 19)), (1, .int (nI (rs.length + 1))), (2, .int (nI k))] dX3_isRow_65 1 rfl (by decide) rfl ?_
            refine q_goto C 36 dX3_isRow_68 (by decide) ?_
            refine q_sub (lv' := [(3, .int (nI 0)), (4, .int (nI (j + 1))), (0, .ref (σ.2.1 19)), (1, .int (nI (rs.length + 1))), (2, .int (nI k))]) [1, 0, 2, 3, 4] rfl ?_
            exact ihL_2 (j + 1) _ (by omega) (by first | exact Or.inr ⟨rfl, fun q => q_row_no (by omega) c_56 q⟩ | exact Or.inr ⟨rfl, hz3.2⟩) (by omega)
          · skip
            have hz2 := hz.resolve_right (fun q => c_45 q.1)
            refine q_aload_n C dX3_isRow_48 rfl 2 rfl ?_
            refine q_get C (k := 19) (fi := 19) (.ref (σ.2.1 84)) (by omega) q_enMO rfl iX3_isRow_X3 (by decide) (by decide +kernel) rfl rfl dX3_isRow_49 ?_
            refine q_iload C dX3_isRow_52 1 rfl ?_
            refine q_ialdN C (k := 84) (n := 7) ⟨by decide, by decide, by decide⟩ (by omega) (by decide) dX3_isRow_54 ?_
            refine q_stk (st' := [.int (nI ((rs.getD j 0)))]) (congrArg (fun z => Value.int z :: []) (ht j (by omega))) ?_
            refine q_iload_n C dX3_isRow_55 rfl 4 rfl ?_
            refine q_icmp_eqN C 63 dX3_isRow_56 (by decide) (by omega) (by omega) (fun c_56 => ?_) (fun c_56 => ?_)
            · skip
              refine q_iconst C (nI 0) dX3_isRow_63 (by decide) ?_
              refine q_istore_n C [(3, .int (nI 0)), (4, .int (nI j)), (0, .ref (σ.2.1 19)), (1, .int (nI (rs.length + 1))), (2, .int (nI k))] dX3_isRow_64 rfl (by decide) rfl ?_
              refine q_iincN C [(4, .int (nI (j + 1))), (3, .int (nI 0)), (0, .ref (σ.2.1 19)), (1, .int (nI (rs.length + 1))), (2, .int (nI k))] dX3_isRow_65 1 rfl (by decide) rfl ?_
              refine q_goto C 36 dX3_isRow_68 (by decide) ?_
              refine q_sub (lv' := [(3, .int (nI 0)), (4, .int (nI (j + 1))), (0, .ref (σ.2.1 19)), (1, .int (nI (rs.length + 1))), (2, .int (nI k))]) [1, 0, 2, 3, 4] rfl ?_
              exact ihL_2 (j + 1) _ (by omega) (by first | exact Or.inr ⟨rfl, fun q => q_row_no (by omega) c_56 q⟩ | exact Or.inr ⟨rfl, hz3.2⟩) (by omega)
            · skip
              refine q_iconst C (nI 1) dX3_isRow_59 (by decide) ?_
              refine q_goto C 64 dX3_isRow_60 (by decide) ?_
              refine q_istore_n C [(3, .int (nI 1)), (4, .int (nI j)), (0, .ref (σ.2.1 19)), (1, .int (nI (rs.length + 1))), (2, .int (nI k))] dX3_isRow_64 rfl (by decide) rfl ?_
              refine q_iincN C [(4, .int (nI (j + 1))), (3, .int (nI 1)), (0, .ref (σ.2.1 19)), (1, .int (nI (rs.length + 1))), (2, .int (nI k))] dX3_isRow_65 1 rfl (by decide) rfl ?_
              refine q_goto C 36 dX3_isRow_68 (by decide) ?_
              refine q_sub (lv' := [(3, .int (nI 1)), (4, .int (nI (j + 1))), (0, .ref (σ.2.1 19)), (1, .int (nI (rs.length + 1))), (2, .int (nI k))]) [1, 0, 2, 3, 4] rfl ?_
              exact ihL_2 (j + 1) _ (by omega) (Or.inl ⟨rfl, hz2.2.1, hz2.2.2.1, lt_s hz2.2.2.2 c_56⟩) (by omega)
    refine q_sub (lv' := [(3, .int z), (4, .int (nI 0)), (0, .ref (σ.2.1 19)), (1, .int (nI (rs.length + 1))), (2, .int (nI k))]) [1, 0, 2, 3, 4] rfl ?_
    exact L_2 _ 0 z (Nat.zero_le _) (hz.imp (fun q => ⟨q.1, q.2.1, q.2.2, lt_0⟩) id) (Nat.lt_succ_self _)
  refine q_aload_n C dX3_isRow_9 rfl 1 rfl ?_
  refine q_iload_n C dX3_isRow_10 rfl 0 rfl ?_
  refine q_callVi C (As := [.int (nI k)]) (rest := []) (k := 19) (by omega) q_enMO rfl rfl (kX3_canGive l σ V G (a := k) (by omega) (hw _ (by omega))) 1 gX3_isRow_X3_canGive rfl rfl rfl (by decide +kernel) ⟨Nat.le_of_ble_eq_true rfl, Nat.le_of_ble_eq_true rfl⟩ dX3_isRow_11 rfl (Nat.le_of_ble_eq_true rfl) ⟨Nat.le_of_ble_eq_true rfl, Nat.le_of_ble_eq_true rfl⟩ (fun r_11 V_3 G_4 hq_11 => ?_)
  obtain ⟨hs_11, rfl, rfl⟩ := hq_11
  refine q_if_eq C 31 dX3_isRow_14 (by decide) (fun c_14 => ?_) (fun c_14 => ?_)
  · skip
    have b_11 := (q_is_eq hs_11).mp c_14
    have hrk : ¬ rd k := by rw [← hrd]; exact b_11
    refine q_iconst C (nI 0) dX3_isRow_31 (by decide) ?_
    refine q_istore_n C [(3, .int (nI 0)), (2, .int (nI k)), (0, .ref (σ.2.1 19)), (1, .int (nI (rs.length + 1)))] dX3_isRow_32 rfl (by decide) rfl ?_
    refine q_sub (lv' := [(3, .int (nI 0)), (0, .ref (σ.2.1 19)), (1, .int (nI (rs.length + 1))), (2, .int (nI k))]) [0, 2, 3, 1] rfl ?_
    exact J_1 _ (by first | exact Or.inr ⟨rfl, fun q => hlt c_24 q⟩ | exact Or.inr ⟨rfl, fun q => hrk q.1⟩)
  · skip
    have b_11 := (q_is_ne hs_11).mp c_14
    have hrk : rd k := by rw [← hrd]; exact b_11
    have hge : ¬ nI k < V 84 0 → rs.length = 0 ∨ rs.getD 0 0 ≤ k := fun q => by
      rcases Nat.eq_zero_or_pos rs.length with e | e
      · exact Or.inl e
      · refine Or.inr (Nat.not_lt.mp fun z => q ?_)
        rw [ht 0 e]
        exact nI_lt z (by have := hr7 0 e; omega)
    have hlt : nI k < V 84 0 → ¬ q_row rd gt rs k := fun q z => by
      rcases z.2 with e | e
      · subst e; rw [show V 84 0 = nI k from htk] at q; exact absurd q (nI_nlt (Nat.le_refl k) (by omega))
      · rcases Nat.eq_zero_or_pos rs.length with e2 | e2
        · have e3 : rs = [] := List.length_eq_zero_iff.mp e2
          subst e3; rw [show V 84 0 = nI k from htk] at q; exact absurd q (nI_nlt (Nat.le_refl k) (by omega))
        · rw [ht 0 e2] at q; exact absurd q (nI_nlt (by omega) (by have := hr7 0 e2; omega))
    refine q_iload_n C dX3_isRow_17 rfl 0 rfl ?_
    refine q_aload_n C dX3_isRow_18 rfl 1 rfl ?_
    refine q_get C (k := 19) (fi := 19) (.ref (σ.2.1 84)) (by omega) q_enMO rfl iX3_isRow_X3 (by decide) (by decide +kernel) rfl rfl dX3_isRow_19 ?_
    refine q_iconst C (nI 0) dX3_isRow_22 (by decide) ?_
    refine q_ialdN C (k := 84) (n := 7) ⟨by decide, by decide, by decide⟩ (by omega) (by decide) dX3_isRow_23 ?_
    refine q_icmp_lt C 31 dX3_isRow_24 (by decide) (fun c_24 => ?_) (fun c_24 => ?_)
    · skip
      refine q_iconst C (nI 0) dX3_isRow_31 (by decide) ?_
      refine q_istore_n C [(3, .int (nI 0)), (2, .int (nI k)), (0, .ref (σ.2.1 19)), (1, .int (nI (rs.length + 1)))] dX3_isRow_32 rfl (by decide) rfl ?_
      refine q_sub (lv' := [(3, .int (nI 0)), (0, .ref (σ.2.1 19)), (1, .int (nI (rs.length + 1))), (2, .int (nI k))]) [0, 2, 3, 1] rfl ?_
      exact J_1 _ (by first | exact Or.inr ⟨rfl, fun q => hlt c_24 q⟩ | exact Or.inr ⟨rfl, fun q => hrk q.1⟩)
    · skip
      refine q_iconst C (nI 1) dX3_isRow_27 (by decide) ?_
      refine q_goto C 32 dX3_isRow_28 (by decide) ?_
      refine q_istore_n C [(3, .int (nI 1)), (2, .int (nI k)), (0, .ref (σ.2.1 19)), (1, .int (nI (rs.length + 1)))] dX3_isRow_32 rfl (by decide) rfl ?_
      refine q_sub (lv' := [(3, .int (nI 1)), (0, .ref (σ.2.1 19)), (1, .int (nI (rs.length + 1))), (2, .int (nI k))]) [0, 2, 3, 1] rfl ?_
      exact J_1 _ (Or.inl ⟨rfl, hrk, hge c_24⟩)
abbrev rX3_finds : Room := { frames := 3, cells := 0, slots := 0, locals := 57 }
theorem iX3_finds_X3 : ∀ w ∈ u_ws RX3 TX3 26, w ∈ wsX3_finds := by decide +kernel
set_option maxHeartbeats 4000000 in
set_option maxRecDepth 100000 in
/-- finds: the best chain -/
theorem kX3_finds (l : Launch) (σ : q_E) (V : q_V) (G : q_G) (hw : ∀ a, a < 7 → V 81 a = -1 ∨ ∃ c, c < 8 ∧ V 81 a = nI c) : q_Mi l yX3_finds wsX3_finds rX3_finds σ [.ref (σ.2.1 19)] V G (fun r V' G' => nI (q_best (q_mrd V) (q_mgt V)).length = r ∧ q_off V V' ∧ (∀ i, i < (q_best (q_mrd V) (q_mgt V)).length → V' 83 i = nI ((q_best (q_mrd V) (q_mgt V)).getD i 0)) ∧ G = G') 0 0 := by
  refine q_Mi_of (cc := cX3_finds) (maxL := 4) (lv := [(0, .ref (σ.2.1 19))]) (by decide +kernel) rfl (Nat.le_of_ble_eq_true rfl) rfl ?_
  intro p e s m args below meth c Q C hR
  refine q_iconst C (nI 0) dX3_finds_0 (by decide) ?_
  refine q_istore_n C [(1, .int (nI 0)), (0, .ref (σ.2.1 19))] dX3_finds_1 rfl (by decide) rfl ?_
  refine q_iconst C (nI 1) dX3_finds_2 (by decide) ?_
  refine q_istore_n C [(2, .int (nI 1)), (1, .int (nI 0)), (0, .ref (σ.2.1 19))] dX3_finds_3 rfl (by decide) rfl ?_
  refine q_aload_n C dX3_finds_4 rfl 2 rfl ?_
  refine q_get C (k := 19) (fi := 19) (.ref (σ.2.1 84)) (by omega) q_enMO rfl iX3_finds_X3 (by decide) (by decide +kernel) rfl rfl dX3_finds_5 ?_
  refine q_iconst C (nI 0) dX3_finds_8 (by decide) ?_
  refine q_iconst C ((-1)) dX3_finds_9 (by decide) ?_
  refine q_iastN C (k := 84) (n := 7) ⟨by decide, by decide, by decide⟩ (by omega) (by decide) dX3_finds_10 ?_
  have L : ∀ (d : Nat) (r : List Nat), r.length + (d + 1) = 7 → (∀ i, i < r.length → r.getD i 0 < 7) → ∀ (n : Nat) (k : Nat) (b : List Nat) (U : q_V), k ≤ 7 → b.length ≤ 7 → (∀ U', q_off V U' → (∀ i, i < r.length → U' 84 i = nI (r.getD i 0)) → (∀ i, i < (q_chs (q_stp (q_mrd V) (q_mgt V) d r) (7 - k) k b).length → U' 83 i = nI ((q_chs (q_stp (q_mrd V) (q_mgt V) d r) (7 - k) k b).getD i 0)) → q_W σ p l e rX3_finds s m args below meth c Q 4 0 0 U' G [(1, .int (nI ((q_chs (q_stp (q_mrd V) (q_mgt V) d r) (7 - k) k b).length))), (2, .int (nI r.length)), (0, .ref (σ.2.1 19))] 11 []) → q_off V U → (∀ i, i < r.length → U 84 i = nI (r.getD i 0)) → U 84 r.length = nI k - nI 1 → (∀ i, i < b.length → U 83 i = nI (b.getD i 0)) → 7 - k < n → q_W σ p l e rX3_finds s m args below meth c Q 4 0 0 U G [(1, .int (nI b.length)), (2, .int (nI (r.length + 1))), (0, .ref (σ.2.1 19))] 11 [] := by
    intro d
    induction d using Nat.strongRecOn with
    | _ d ihd =>
      intro r hrd hr7 n
      induction n with
      | zero => intro _ _ _ _ _ _ _ _ _ _ hn; exact absurd hn (Nat.not_lt_zero _)
      | succ n ih =>
        intro k b U hk7 hb hpop hoff ht htk hc hn
        have hrl : r.length < 7 := by omega
        refine q_iload_n C dX3_finds_11 rfl 1 rfl ?_
        refine q_if_leN C 140 dX3_finds_12 (by decide) (by omega) (fun c_12 => absurd c_12 (by omega)) (fun c_12 => ?_)
        refine q_aload_n C dX3_finds_15 rfl 2 rfl ?_
        refine q_get C (k := 19) (fi := 19) (.ref (σ.2.1 84)) (by omega) q_enMO rfl iX3_finds_X3 (by decide) (by decide +kernel) rfl rfl dX3_finds_16 ?_
        refine q_iload_n C dX3_finds_19 rfl 1 rfl ?_
        refine q_iconst C (nI 1) dX3_finds_20 (by decide) ?_
        refine q_isubN C dX3_finds_21 (by omega) ?_
        refine q_stk (st' := [.int (nI r.length), .ref (σ.2.1 84)]) (congrArg (fun z => Value.int z :: [.ref (σ.2.1 84)]) (congrArg nI (Nat.add_sub_cancel _ _))) ?_
        refine q_dup2 C dX3_finds_22 rfl rfl ?_
        refine q_ialdN C (k := 84) (n := 7) ⟨by decide, by decide, by decide⟩ (by omega) (by decide) dX3_finds_23 ?_
        refine q_stk (st' := [.int ((nI k - nI 1)), .int (nI r.length), .ref (σ.2.1 84)]) (congrArg (fun z => Value.int z :: [.int (nI r.length), .ref (σ.2.1 84)]) (htk)) ?_
        refine q_iconst C (nI 1) dX3_finds_24 (by decide) ?_
        refine q_iadd C dX3_finds_25 ?_
        refine q_stk (st' := [.int (nI k), .int (nI r.length), .ref (σ.2.1 84)]) (congrArg (fun z => Value.int z :: [.int (nI r.length), .ref (σ.2.1 84)]) (q_inc1 k)) ?_
        refine q_iastN C (k := 84) (n := 7) ⟨by decide, by decide, by decide⟩ (by omega) (by decide) dX3_finds_26 ?_
        refine q_aload_n C dX3_finds_27 rfl 2 rfl ?_
        refine q_get C (k := 19) (fi := 19) (.ref (σ.2.1 84)) (by omega) q_enMO rfl iX3_finds_X3 (by decide) (by decide +kernel) rfl rfl dX3_finds_28 ?_
        refine q_iload_n C dX3_finds_31 rfl 1 rfl ?_
        refine q_iconst C (nI 1) dX3_finds_32 (by decide) ?_
        refine q_isubN C dX3_finds_33 (by omega) ?_
        refine q_stk (st' := [.int (nI r.length), .ref (σ.2.1 84)]) (congrArg (fun z => Value.int z :: [.ref (σ.2.1 84)]) (congrArg nI (Nat.add_sub_cancel _ _))) ?_
        refine q_ialdN C (k := 84) (n := 7) ⟨by decide, by decide, by decide⟩ (by omega) (by decide) dX3_finds_34 ?_
        refine q_stk (st' := [.int (nI k)]) (congrArg (fun z => Value.int z :: []) (q_up_self _ _ _ _)) ?_
        refine q_bipush C (nI 7) dX3_finds_35 (by decide) ?_
        refine q_icmp_neN C 46 dX3_finds_37 (by decide) (by omega) (by omega) (fun c_37 => ?_) (fun c_37 => ?_)
        · skip
          have c7 : k < 7 := by omega
          refine q_aload_n C dX3_finds_46 rfl 2 rfl ?_
          refine q_iload_n C dX3_finds_47 rfl 1 rfl ?_
          refine q_callVi C (As := [.int (nI (r.length + 1))]) (rest := []) (k := 19) (by omega) q_enMO rfl rfl (kX3_isRow l σ (q_up U 84 r.length (nI k)) G (q_wf_off (q_off_up hoff) hw) hrl hr7 c7 (fun i hi => (q_up_ne _ _ (by omega)).trans (ht i hi)) (q_up_self _ _ _ _) (rd := q_mrd V) (gt := q_mgt V) (q_mrd_off (q_off_up hoff)) (q_mgt_off (q_off_up hoff))) 1 gX3_finds_X3_isRow rfl rfl rfl (by decide +kernel) ⟨Nat.le_of_ble_eq_true rfl, Nat.le_of_ble_eq_true rfl⟩ dX3_finds_48 rfl (Nat.le_of_ble_eq_true rfl) ⟨Nat.le_of_ble_eq_true rfl, Nat.le_of_ble_eq_true rfl⟩ (fun r_48 V_1 G_2 hq_48 => ?_)
          obtain ⟨hs_48, rfl, rfl⟩ := hq_48
          refine q_if_ne C 57 dX3_finds_51 (by decide) (fun c_51 => ?_) (fun c_51 => ?_)
          · skip
            have b_48 := (q_is_ne hs_48).mp c_51
            have J_3 : ∀ (U2 : q_V) (b1 : List Nat) (hb1 : b1 = q_upb (q_mgt V) b (r ++ [k])) (hb7 : b1.length ≤ 7) (h2off : q_off V U2) (h2t : ∀ i, i < r.length → U2 84 i = nI (r.getD i 0)) (h2k : U2 84 r.length = nI k) (h2c : ∀ i, i < b1.length → U2 83 i = nI (b1.getD i 0)), q_W σ p l e rX3_finds s m args below meth c Q 4 0 0 U2 G [(1, .int (nI b1.length)), (2, .int (nI (r.length + 1))), (0, .ref (σ.2.1 19))] 121 [] := by
              intro U2 b1 hb1 hb7 h2off h2t h2k h2c
              refine q_iload_n C dX3_finds_121 rfl 1 rfl ?_
              refine q_bipush C (nI 7) dX3_finds_122 (by decide) ?_
              refine q_icmp_geN C 11 dX3_finds_124 (by decide) (by omega) (by omega) (fun c_124 => ?_) (fun c_124 => ?_)
              · skip
                refine q_sub (lv' := [(1, .int (nI b1.length)), (2, .int (nI (r.length + 1))), (0, .ref (σ.2.1 19))]) [0, 1, 2] rfl ?_
                have hd0 : d = 0 := by omega
                subst hd0
                rw [q_chs_step c7, show q_stp (q_mrd V) (q_mgt V) 0 r b k = b1 from (q_ite_y b_48).trans hb1.symm] at hpop
                exact ih (k + 1) b1 _ (by omega) hb7 hpop h2off h2t (h2k.trans (q_sub1 k).symm) h2c (by omega)
              · skip
                refine q_aload_n C dX3_finds_127 rfl 2 rfl ?_
                refine q_get C (k := 19) (fi := 19) (.ref (σ.2.1 84)) (by omega) q_enMO rfl iX3_finds_X3 (by decide) (by decide +kernel) rfl rfl dX3_finds_128 ?_
                refine q_iload_n C dX3_finds_131 rfl 1 rfl ?_
                refine q_iconst C ((-1)) dX3_finds_132 (by decide) ?_
                refine q_iastN C (k := 84) (n := 7) ⟨by decide, by decide, by decide⟩ (by omega) (by decide) dX3_finds_133 ?_
                refine q_iincN C [(2, .int (nI (r.length + 1 + 1))), (1, .int (nI b1.length)), (0, .ref (σ.2.1 19))] dX3_finds_134 1 rfl (by decide) rfl ?_
                refine q_goto C 11 dX3_finds_137 (by decide) ?_
                refine q_sub (lv' := [(1, .int (nI b1.length)), (2, .int (nI (r.length + 1 + 1))), (0, .ref (σ.2.1 19))]) [1, 0, 2] rfl ?_
                obtain ⟨d1, rfl⟩ : ∃ d1, d = d1 + 1 := ⟨d - 1, by omega⟩
                rw [q_chs_step c7, show q_stp (q_mrd V) (q_mgt V) (d1 + 1) r b k = q_ch (q_mrd V) (q_mgt V) (d1 + 1) (r ++ [k]) b1 from (q_ite_y b_48).trans (by rw [hb1])] at hpop
                have e9 := q_len_app r k
                have hb9 := q_ch_len (q_mrd V) (q_mgt V) (d1 + 1) (r ++ [k]) b1 (by omega) hb7
                have h3 := ihd d1 (by omega) (r ++ [k]) (by omega) (q_app_lt hr7 c7) 8 0 b1 (q_up U2 84 (r.length + 1) (-1)) (by decide) hb7 (fun U' h1 h2 h4 => by
                  rw [e9] at h2 ⊢
                  exact ih (k + 1) _ U' (by omega) hb9 hpop h1 (fun i hi => (h2 i (by omega)).trans (congrArg nI (q_gd_lt hi))) ((h2 r.length (by omega)).trans ((congrArg nI (q_gd_eq r k)).trans (q_sub1 k).symm)) h4 (by omega))
                  (q_off_up h2off) (q_app_at h2t h2k) (by rw [e9]; exact (q_up_self _ _ _ _).trans (by decide)) (fun i hi => (q_up_ne _ _ (by omega)).trans (h2c i hi)) (by decide)
                rw [e9] at h3
                exact h3
            refine q_iload_n C dX3_finds_57 rfl 1 rfl ?_
            refine q_iload_n C dX3_finds_58 rfl 0 rfl ?_
            refine q_icmp_leN C 121 dX3_finds_59 (by decide) (by omega) (by omega) (fun c_59 => ?_) (fun c_59 => ?_)
            · skip
              refine q_sub (lv' := [(1, .int (nI b.length)), (2, .int (nI (r.length + 1))), (0, .ref (σ.2.1 19))]) [0, 1, 2] rfl ?_
              exact J_3 _ b (q_ite_n (by first | exact fun q => Nat.not_lt.mpr c_59 (by have := q.2; rw [q_len_app] at this; omega) | exact fun q => absurd q.1.1 (by rw [q_len_app]; omega) | exact fun q => hcl q.1)).symm hb (q_off_up hoff) (fun i hi => (q_up_ne _ _ (by omega)).trans (ht i hi)) (q_up_self _ _ _ _) (fun i hi => (q_up_ne _ _ (by omega)).trans (hc i hi))
            · skip
              refine q_iload_n C dX3_finds_62 rfl 1 rfl ?_
              refine q_iconst C (nI 1) dX3_finds_63 (by decide) ?_
              refine q_icmp_leN C 121 dX3_finds_64 (by decide) (by omega) (by omega) (fun c_64 => ?_) (fun c_64 => ?_)
              · skip
                refine q_sub (lv' := [(1, .int (nI b.length)), (2, .int (nI (r.length + 1))), (0, .ref (σ.2.1 19))]) [0, 1, 2] rfl ?_
                exact J_3 _ b (q_ite_n (by first | exact fun q => Nat.not_lt.mpr c_59 (by have := q.2; rw [q_len_app] at this; omega) | exact fun q => absurd q.1.1 (by rw [q_len_app]; omega) | exact fun q => hcl q.1)).symm hb (q_off_up hoff) (fun i hi => (q_up_ne _ _ (by omega)).trans (ht i hi)) (q_up_self _ _ _ _) (fun i hi => (q_up_ne _ _ (by omega)).trans (hc i hi))
              · skip
                have hr07 := hr7 0 (by omega)
                refine q_aload_n C dX3_finds_67 rfl 2 rfl ?_
                refine q_get C (k := 19) (fi := 17) (.ref (σ.2.1 82)) (by omega) q_enMO rfl iX3_finds_X3 (by decide) (by decide +kernel) rfl rfl dX3_finds_68 ?_
                refine q_aload_n C dX3_finds_71 rfl 2 rfl ?_
                refine q_get C (k := 19) (fi := 19) (.ref (σ.2.1 84)) (by omega) q_enMO rfl iX3_finds_X3 (by decide) (by decide +kernel) rfl rfl dX3_finds_72 ?_
                refine q_iload_n C dX3_finds_75 rfl 1 rfl ?_
                refine q_iconst C (nI 1) dX3_finds_76 (by decide) ?_
                refine q_isubN C dX3_finds_77 (by omega) ?_
                refine q_stk (st' := [.int (nI r.length), .ref (σ.2.1 84), .ref (σ.2.1 82)]) (congrArg (fun z => Value.int z :: [.ref (σ.2.1 84), .ref (σ.2.1 82)]) (congrArg nI (Nat.add_sub_cancel _ _))) ?_
                refine q_ialdN C (k := 84) (n := 7) ⟨by decide, by decide, by decide⟩ (by omega) (by decide) dX3_finds_78 ?_
                refine q_stk (st' := [.int (nI k), .ref (σ.2.1 82)]) (congrArg (fun z => Value.int z :: [.ref (σ.2.1 82)]) (q_up_self _ _ _ _)) ?_
                refine q_ialdN C (k := 82) (n := 7) ⟨by decide, by decide, by decide⟩ (by omega) (by decide) dX3_finds_79 ?_
                refine q_stk (st' := [.int (U 82 k)]) (congrArg (fun z => Value.int z :: []) (q_up_ne _ _ (by omega))) ?_
                refine q_aload_n C dX3_finds_80 rfl 2 rfl ?_
                refine q_get C (k := 19) (fi := 16) (.ref (σ.2.1 81)) (by omega) q_enMO rfl iX3_finds_X3 (by decide) (by decide +kernel) rfl rfl dX3_finds_81 ?_
                refine q_aload_n C dX3_finds_84 rfl 2 rfl ?_
                refine q_get C (k := 19) (fi := 19) (.ref (σ.2.1 84)) (by omega) q_enMO rfl iX3_finds_X3 (by decide) (by decide +kernel) rfl rfl dX3_finds_85 ?_
                refine q_iconst C (nI 0) dX3_finds_88 (by decide) ?_
                refine q_ialdN C (k := 84) (n := 7) ⟨by decide, by decide, by decide⟩ (by omega) (by decide) dX3_finds_89 ?_
                refine q_stk (st' := [.int (nI ((r.getD 0 0))), .ref (σ.2.1 81), .int (U 82 k)]) (congrArg (fun z => Value.int z :: [.ref (σ.2.1 81), .int (U 82 k)]) ((q_up_ne _ _ (by omega)).trans (ht 0 (by omega)))) ?_
                refine q_ialdN C (k := 81) (n := 7) ⟨by decide, by decide, by decide⟩ (by omega) (by decide) dX3_finds_90 ?_
                refine q_stk (st' := [.int (U 81 ((r.getD 0 0))), .int (U 82 k)]) (congrArg (fun z => Value.int z :: [.int (U 82 k)]) (q_up_ne _ _ (by omega))) ?_
                refine q_icmp_ne C 121 dX3_finds_91 (by decide) (fun c_91 => ?_) (fun c_91 => ?_)
                · skip
                  have hcl : ¬ q_cl (q_mgt V) (r ++ [k]) := fun q => c_91 (by have := q.2; rw [q_la_app, q_hd_app k (by omega)] at this; show U 82 k = U 81 _; rw [hoff 82 (by decide) (by decide), hoff 81 (by decide) (by decide)]; exact this)
                  refine q_sub (lv' := [(1, .int (nI b.length)), (2, .int (nI (r.length + 1))), (0, .ref (σ.2.1 19))]) [0, 1, 2] rfl ?_
                  exact J_3 _ b (q_ite_n (by first | exact fun q => Nat.not_lt.mpr c_59 (by have := q.2; rw [q_len_app] at this; omega) | exact fun q => absurd q.1.1 (by rw [q_len_app]; omega) | exact fun q => hcl q.1)).symm hb (q_off_up hoff) (fun i hi => (q_up_ne _ _ (by omega)).trans (ht i hi)) (q_up_self _ _ _ _) (fun i hi => (q_up_ne _ _ (by omega)).trans (hc i hi))
                · skip
                  have hcl : q_cl (q_mgt V) (r ++ [k]) := ⟨by rw [q_len_app]; omega, by rw [q_la_app, q_hd_app k (by omega)]; show V 82 k = V 81 _; rw [← hoff 82 (by decide) (by decide), ← hoff 81 (by decide) (by decide)]; exact c_91⟩
                  refine q_iload_n C dX3_finds_94 rfl 1 rfl ?_
                  refine q_istore_n C [(1, .int (nI (r.length + 1))), (2, .int (nI (r.length + 1))), (0, .ref (σ.2.1 19))] dX3_finds_95 rfl (by decide) rfl ?_
                  refine q_iconst C (nI 0) dX3_finds_96 (by decide) ?_
                  refine q_istore_n C [(3, .int (nI 0)), (1, .int (nI (r.length + 1))), (2, .int (nI (r.length + 1))), (0, .ref (σ.2.1 19))] dX3_finds_97 rfl (by decide) rfl ?_
                  have L_4 : ∀ (nL_4 : Nat) (j : Nat) (hj : j ≤ r.length + 1), r.length + 1 - j < nL_4 → q_W σ p l e rX3_finds s m args below meth c Q 4 0 0 (q_cpy (q_up U 84 r.length (nI k)) 84 83 j) G [(3, .int (nI j)), (0, .ref (σ.2.1 19)), (1, .int (nI (r.length + 1))), (2, .int (nI (r.length + 1)))] 98 [] := by
                    intro nL_4
                    induction nL_4 with
                    | zero => intro j hj h; exact absurd h (Nat.not_lt_zero _)
                    | succ nL_4 ihL_4 =>
                      intro j hj hmL_4
                      refine q_iload_n C dX3_finds_98 rfl 0 rfl ?_
                      refine q_iload_n C dX3_finds_99 rfl 3 rfl ?_
                      refine q_icmp_geN C 121 dX3_finds_100 (by decide) (by omega) (by omega) (fun c_100 => ?_) (fun c_100 => ?_)
                      · skip
                        obtain rfl : j = r.length + 1 := by omega
                        refine q_sub (lv' := [(1, .int (nI (r.length + 1))), (2, .int (nI (r.length + 1))), (0, .ref (σ.2.1 19))]) [2, 3, 1] rfl ?_
                        refine q_lve (lv' := [(1, .int (nI (r ++ [k]).length)), (2, .int (nI (r.length + 1))), (0, .ref (σ.2.1 19))]) (by rw [q_len_app]) ?_
                        exact J_3 _ (r ++ [k]) (q_ite_y (by rw [q_len_app]; exact ⟨hcl, by omega⟩)).symm (by rw [q_len_app]; omega) (q_off_cpy (q_off_up hoff)) (fun i hi => (if_neg (fun z => absurd z.1 (by decide))).trans ((q_up_ne _ _ (by omega)).trans (ht i hi))) ((if_neg (fun z => absurd z.1 (by decide))).trans (q_up_self _ _ _ _)) (fun i hi => by rw [q_len_app] at hi; exact q_cpy_app ht hi)
                      · skip
                        refine q_aload_n C dX3_finds_103 rfl 1 rfl ?_
                        refine q_get C (k := 19) (fi := 18) (.ref (σ.2.1 83)) (by omega) q_enMO rfl iX3_finds_X3 (by decide) (by decide +kernel) rfl rfl dX3_finds_104 ?_
                        refine q_iload_n C dX3_finds_107 rfl 0 rfl ?_
                        refine q_aload_n C dX3_finds_108 rfl 1 rfl ?_
                        refine q_get C (k := 19) (fi := 19) (.ref (σ.2.1 84)) (by omega) q_enMO rfl iX3_finds_X3 (by decide) (by decide +kernel) rfl rfl dX3_finds_109 ?_
                        refine q_iload_n C dX3_finds_112 rfl 0 rfl ?_
                        refine q_ialdN C (k := 84) (n := 7) ⟨by decide, by decide, by decide⟩ (by omega) (by decide) dX3_finds_113 ?_
                        refine q_iastN C (k := 83) (n := 7) ⟨by decide, by decide, by decide⟩ (by omega) (by decide) dX3_finds_114 ?_
                        refine q_VG (V' := q_cpy (q_up U 84 r.length (nI k)) 84 83 (j + 1)) (G' := G) (by exact q_cpy_succ _ _ (by decide)) rfl ?_
                        refine q_iincN C [(3, .int (nI (j + 1))), (0, .ref (σ.2.1 19)), (1, .int (nI (r.length + 1))), (2, .int (nI (r.length + 1)))] dX3_finds_115 0 rfl (by decide) rfl ?_
                        refine q_goto C 98 dX3_finds_118 (by decide) ?_
                        refine q_sub (lv' := [(3, .int (nI (j + 1))), (0, .ref (σ.2.1 19)), (1, .int (nI (r.length + 1))), (2, .int (nI (r.length + 1)))]) [0, 1, 2, 3] rfl ?_
                        exact ihL_4 (j + 1) (by omega) (by omega)
                  refine q_sub (lv' := [(3, .int (nI 0)), (0, .ref (σ.2.1 19)), (1, .int (nI (r.length + 1))), (2, .int (nI (r.length + 1)))]) [0, 3, 1, 2] rfl ?_
                  refine q_VG (V' := q_cpy (q_up U 84 r.length (nI k)) 84 83 0) (G' := G) ((q_cpy_0 _ _ _).symm) rfl ?_
                  exact L_4 _ 0 (Nat.zero_le _) (Nat.lt_succ_self _)
          · skip
            have b_48 := (q_is_eq hs_48).mp c_51
            refine q_goto C 11 dX3_finds_54 (by decide) ?_
            refine q_sub (lv' := [(1, .int (nI b.length)), (2, .int (nI (r.length + 1))), (0, .ref (σ.2.1 19))]) [0, 1, 2] rfl ?_
            rw [q_chs_step c7, show q_stp (q_mrd V) (q_mgt V) d r b k = b from q_ite_n b_48] at hpop
            exact ih (k + 1) b _ (by omega) hb hpop (q_off_up hoff) (fun i hi => (q_up_ne _ _ (by omega)).trans (ht i hi)) ((q_up_self _ _ _ _).trans (q_sub1 k).symm) (fun i hi => (q_up_ne _ _ (by omega)).trans (hc i hi)) (by omega)
        · skip
          refine q_iinc C (nI r.length) [(2, .int (nI r.length)), (1, .int (nI b.length)), (0, .ref (σ.2.1 19))] dX3_finds_40 1 rfl (q_pm1 _) (by decide) rfl ?_
          refine q_goto C 11 dX3_finds_43 (by decide) ?_
          refine q_sub (lv' := [(1, .int (nI b.length)), (2, .int (nI r.length)), (0, .ref (σ.2.1 19))]) [1, 0, 2] rfl ?_
          have e9 : k = 7 := by omega
          subst e9
          exact hpop _ (q_off_up hoff) (fun i hi => (q_up_ne _ _ (by omega)).trans (ht i hi)) (fun i hi => (q_up_ne _ _ (by omega)).trans (hc i hi))
  have X : ∀ U', q_off V U' → (∀ i, i < (q_best (q_mrd V) (q_mgt V)).length → U' 83 i = nI ((q_best (q_mrd V) (q_mgt V)).getD i 0)) → q_W σ p l e rX3_finds s m args below meth c Q 4 0 0 U' G [(1, .int (nI ((q_best (q_mrd V) (q_mgt V)).length))), (2, .int (nI 0)), (0, .ref (σ.2.1 19))] 11 [] := by
    intro U' hoff hc
    refine q_iload_n C dX3_finds_11 rfl 1 rfl ?_
    refine q_if_le C 140 dX3_finds_12 (by decide) (fun _ => ?_) (fun c_12 => absurd c_12 (by decide))
    refine q_iload_n C dX3_finds_140 rfl 0 rfl ?_
    refine hR _ _ _ _ _ _ _ ?_ rfl (Nat.le_of_ble_eq_true rfl) (Nat.le_of_ble_eq_true rfl) dX3_finds_141
    exact ⟨rfl, hoff, hc, rfl⟩
  refine q_sub (lv' := [(1, .int (nI 0)), (2, .int (nI 1)), (0, .ref (σ.2.1 19))]) [1, 0, 2] rfl ?_
  exact L 6 [] rfl (fun i hi => absurd hi (Nat.not_lt_zero i)) 8 0 [] _ (by decide) (by decide) (fun U' h1 _ h3 => X U' h1 h3) (q_off_up (q_off_rfl V)) (fun i hi => absurd hi (Nat.not_lt_zero i)) ((q_up_self _ _ _ _).trans (by decide)) (fun i hi => absurd hi (Nat.not_lt_zero i)) (by decide)
