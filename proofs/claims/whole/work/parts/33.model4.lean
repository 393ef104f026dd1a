abbrev rX3_beads : Room := { frames := 3, cells := 0, slots := 0, locals := 59 }
theorem iX3_beads_X3 : ∀ w ∈ u_ws RX3 TX3 26, w ∈ wsX3_beads := by decide +kernel
set_option maxHeartbeats 4000000 in
set_option maxRecDepth 100000 in
/-- beads, the reference -/
theorem kX3_beads (l : Launch) (σ : q_E) (V : q_V) (G : q_G) {n : Nat} (hn2 : n ≤ 12) (hp : q_mpats V n) (hbl : q_mbelts V n) (y : Int32) : q_Mi l yX3_beads wsX3_beads rX3_beads σ [.ref (σ.2.1 19), .int y] V G (fun r V' G' => q_mres V (q_c1 (q_ok 8 y)) (q_mbs V (q_n y) 20) (q_up V 19 0 (nI 0)) r V' ∧ G = G') 0 0 := by
  refine q_Mi_of (cc := cX3_beads) (maxL := 4) (lv := [(0, .ref (σ.2.1 19)), (1, .int y)]) (by decide +kernel) rfl (Nat.le_of_ble_eq_true rfl) rfl ?_
  intro p e s m args below meth c Q C hR
  refine q_aload_n C dX3_beads_0 rfl 0 rfl ?_
  refine q_iload_n C dX3_beads_1 rfl 1 rfl ?_
  refine q_callSi C (As := [.int y]) (rest := [.ref (σ.2.1 19)]) (kX3_isColour l σ V G y) 1 gX3_beads_X3_isColour rfl rfl rfl (by decide +kernel) ⟨Nat.le_of_ble_eq_true rfl, Nat.le_of_ble_eq_true rfl⟩ dX3_beads_2 rfl (Nat.le_of_ble_eq_true rfl) ⟨Nat.le_of_ble_eq_true rfl, Nat.le_of_ble_eq_true rfl⟩ (fun r_2 V_1 G_2 hq_2 => ?_)
  obtain ⟨hs_2, rfl, rfl⟩ := hq_2
  refine q_if_eq C 12 dX3_beads_5 (by decide) (fun c_5 => ?_) (fun c_5 => ?_)
  · skip
    have b_2 := (q_is_eq hs_2).mp c_5
    refine q_iconst C (nI 1) dX3_beads_12 (by decide) ?_
    refine q_put C (k := 19) (fi := 0) tyX3 tyX3_ok nmX3 (by omega) q_enMO rfl iX3_beads_X3 (by decide) (by decide +kernel) rfl rfl (by decide +kernel) (Nat.le_of_ble_eq_true rfl) (q_enMO |>.trans (by simp [q_up])) dX3_beads_13 ?_
    refine q_aload_n C dX3_beads_16 rfl 0 rfl ?_
    refine q_get C (k := 19) (fi := 0) (.int (nI 1)) (by omega) q_enMO rfl iX3_beads_X3 (by decide) (by decide +kernel) rfl (congrArg (fun z => some (Value.int z)) (q_up_self _ _ _ _)) dX3_beads_17 ?_
    refine q_if_le C 25 dX3_beads_20 (by decide) (fun c_20 => absurd c_20 (by decide)) (fun _ => ?_)
    refine q_iconst C (nI 0) dX3_beads_23 (by decide) ?_
    refine hR _ _ _ _ _ _ _ ?_ rfl (Nat.le_of_ble_eq_true rfl) (Nat.le_of_ble_eq_true rfl) dX3_beads_24
    refine ⟨?_, rfl⟩
    exact q_mres_1 (q_c1_1 b_2) (by decide) rfl
  · skip
    have b_2 := (q_is_ne hs_2).mp c_5
    obtain ⟨cc, hcc, rfl⟩ := b_2
    refine q_iconst C (nI 0) dX3_beads_8 (by decide) ?_
    refine q_goto C 13 dX3_beads_9 (by decide) ?_
    refine q_put C (k := 19) (fi := 0) tyX3 tyX3_ok nmX3 (by omega) q_enMO rfl iX3_beads_X3 (by decide) (by decide +kernel) rfl rfl (by decide +kernel) (Nat.le_of_ble_eq_true rfl) (q_enMO |>.trans (by simp [q_up])) dX3_beads_13 ?_
    refine q_aload_n C dX3_beads_16 rfl 0 rfl ?_
    refine q_get C (k := 19) (fi := 0) (.int (nI 0)) (by omega) q_enMO rfl iX3_beads_X3 (by decide) (by decide +kernel) rfl (congrArg (fun z => some (Value.int z)) (q_up_self _ _ _ _)) dX3_beads_17 ?_
    refine q_if_le C 25 dX3_beads_20 (by decide) (fun _ => ?_) (fun c_20 => absurd c_20 (by decide))
    refine q_aload_n C dX3_beads_25 rfl 0 rfl ?_
    refine q_get C (k := 19) (fi := 2) (.ref (σ.2.1 70)) (by omega) q_enMO rfl iX3_beads_X3 (by decide) (by decide +kernel) rfl rfl dX3_beads_26 ?_
    refine q_iload_n C dX3_beads_29 rfl 1 rfl ?_
    refine q_ialdN C (k := 70) (n := 8) ⟨by decide, by decide, by decide⟩ (by omega) (by decide) dX3_beads_30 ?_
    refine q_stk (st' := [.int (V 70 cc)]) (congrArg (fun z => Value.int z :: []) (q_up_ne _ _ (by omega))) ?_
    refine q_istore_n C [(2, .int (V 70 cc)), (0, .ref (σ.2.1 19)), (1, .int (nI cc))] dX3_beads_31 rfl (by decide) rfl ?_
    refine q_iconst C (nI 0) dX3_beads_32 (by decide) ?_
    refine q_istore_n C [(3, .int (nI 0)), (2, .int (V 70 cc)), (0, .ref (σ.2.1 19)), (1, .int (nI cc))] dX3_beads_33 rfl (by decide) rfl ?_
    have L_3 : ∀ (nL_3 : Nat) (j : Nat) (hj : j ≤ 7), 7 - j < nL_3 → q_W σ p l e rX3_beads s m args below meth c Q 4 0 0 (q_up V 19 0 (nI 0)) G [(2, .int (q_mhs V cc j)), (3, .int (nI j)), (0, .ref (σ.2.1 19)), (1, .int (nI cc))] 34 [] := by
      intro nL_3
      induction nL_3 with
      | zero => intro j hj h; exact absurd h (Nat.not_lt_zero _)
      | succ nL_3 ihL_3 =>
        intro j hj hmL_3
        refine q_iload_n C dX3_beads_34 rfl 1 rfl ?_
        refine q_bipush C (nI 7) dX3_beads_35 (by decide) ?_
        refine q_icmp_geN C 60 dX3_beads_37 (by decide) (by omega) (by omega) (fun c_37 => ?_) (fun c_37 => ?_)
        · skip
          refine q_iconst C (nI 0) dX3_beads_60 (by decide) ?_
          refine q_istore_n C [(3, .int (nI 0)), (2, .int (q_mhs V cc j)), (0, .ref (σ.2.1 19)), (1, .int (nI cc))] dX3_beads_61 rfl (by decide) rfl ?_
          have L_4 : ∀ (nL_4 : Nat) (j : Nat) (s9 : Int32) (hj : j ≤ 20) (hs9 : s9 = q_mbs V cc j), 20 - j < nL_4 → q_W σ p l e rX3_beads s m args below meth c Q 4 0 0 (q_up V 19 0 (nI 0)) G [(2, .int s9), (3, .int (nI j)), (0, .ref (σ.2.1 19)), (1, .int (nI cc))] 62 [] := by
            intro nL_4
            induction nL_4 with
            | zero => intro j s9 hj hs9 h; exact absurd h (Nat.not_lt_zero _)
            | succ nL_4 ihL_4 =>
              intro j s9 hj hs9 hmL_4
              refine q_iload_n C dX3_beads_62 rfl 1 rfl ?_
              refine q_bipush C (nI 20) dX3_beads_63 (by decide) ?_
              refine q_icmp_geN C 100 dX3_beads_65 (by decide) (by omega) (by omega) (fun c_65 => ?_) (fun c_65 => ?_)
              · skip
                refine q_iload_n C dX3_beads_100 rfl 0 rfl ?_
                refine hR _ _ _ _ _ _ _ ?_ rfl (Nat.le_of_ble_eq_true rfl) (Nat.le_of_ble_eq_true rfl) dX3_beads_101
                obtain rfl : j = 20 := by omega
                rw [hs9]
                refine ⟨?_, rfl⟩
                simp only [q_n_nI (n := cc) (by omega)]
                exact q_mres_0 (q_c1_0 (q_ok_nI hcc)) rfl rfl
              · skip
                refine q_iload_n C dX3_beads_68 rfl 0 rfl ?_
                refine q_aload_n C dX3_beads_69 rfl 2 rfl ?_
                refine q_iload_n C dX3_beads_70 rfl 1 rfl ?_
                refine q_callVi C (As := [.int (nI j)]) (rest := [.int s9]) (k := 19) (by omega) q_enMO rfl rfl (kX3_isBelt l σ (q_up V 19 0 (nI 0)) G (nI j)) 1 gX3_beads_X3_isBelt rfl rfl rfl (by decide +kernel) ⟨Nat.le_of_ble_eq_true rfl, Nat.le_of_ble_eq_true rfl⟩ dX3_beads_71 rfl (Nat.le_of_ble_eq_true rfl) ⟨Nat.le_of_ble_eq_true rfl, Nat.le_of_ble_eq_true rfl⟩ (fun r_71 V_5 G_6 hq_71 => ?_)
                obtain ⟨hs_71, rfl, rfl⟩ := hq_71
                refine q_if_eq C 91 dX3_beads_74 (by decide) (fun c_74 => ?_) (fun c_74 => ?_)
                · skip
                  have b_71 := (q_is_eq hs_71).mp c_74
                  have hb9 : V 78 j = -1 := Classical.byContradiction fun z => b_71 ⟨j, by omega, rfl, z⟩
                  refine q_iconst C (nI 0) dX3_beads_91 (by decide) ?_
                  refine q_iadd C dX3_beads_92 ?_
                  refine q_istore_n C [(2, .int (s9 + nI 0)), (3, .int (nI j)), (0, .ref (σ.2.1 19)), (1, .int (nI cc))] dX3_beads_93 rfl (by decide) rfl ?_
                  refine q_iincN C [(3, .int (nI (j + 1))), (2, .int (s9 + nI 0)), (0, .ref (σ.2.1 19)), (1, .int (nI cc))] dX3_beads_94 1 rfl (by decide) rfl ?_
                  refine q_goto C 62 dX3_beads_97 (by decide) ?_
                  refine q_sub (lv' := [(2, .int (s9 + nI 0)), (3, .int (nI (j + 1))), (0, .ref (σ.2.1 19)), (1, .int (nI cc))]) [1, 0, 2, 3] rfl ?_
                  exact ihL_4 (j + 1) _ (by omega) (by rw [hs9]; show _ = q_mbs V cc j + q_mbelt V j (nI cc); first | (rw [q_mbelt_n hb9] <;> rfl) | (rw [q_mbelt_y hb9 hpe (by omega)] <;> rfl)) (by omega)
                · skip
                  have b_71 := (q_is_ne hs_71).mp c_74
                  have hb9 : ¬ V 78 j = -1 := by
                    obtain ⟨b, hb, e9, h9⟩ := b_71
                    rw [q_nI_inj e9 (by omega) (by omega)]
                    exact h9
                  obtain ⟨pa, hpa, hpe⟩ := (hbl j (by omega)).resolve_left hb9
                  refine q_aload_n C dX3_beads_77 rfl 2 rfl ?_
                  refine q_aload_n C dX3_beads_78 rfl 2 rfl ?_
                  refine q_get C (k := 19) (fi := 13) (.ref (σ.2.1 78)) (by omega) q_enMO rfl iX3_beads_X3 (by decide) (by decide +kernel) rfl rfl dX3_beads_79 ?_
                  refine q_iload_n C dX3_beads_82 rfl 1 rfl ?_
                  refine q_ialdN C (k := 78) (n := 20) ⟨by decide, by decide, by decide⟩ (by omega) (by decide) dX3_beads_83 ?_
                  refine q_stk (st' := [.int (V 78 j), .ref (σ.2.1 19), .int s9]) (congrArg (fun z => Value.int z :: [.ref (σ.2.1 19), .int s9]) (q_up_ne _ _ (by omega))) ?_
                  refine q_stk (st' := [.int (nI pa), .ref (σ.2.1 19), .int s9]) (congrArg (fun z => Value.int z :: [.ref (σ.2.1 19), .int s9]) (hpe)) ?_
                  refine q_iload_n C dX3_beads_84 rfl 3 rfl ?_
                  refine q_callVi C (As := [.int (nI pa), .int (nI cc)]) (rest := [.int s9]) (k := 19) (by omega) q_enMO rfl rfl (kX3_needsOf l σ (q_up V 19 0 (nI 0)) G (pa := pa) (by omega) (hp pa hpa) (nI cc)) 2 gX3_beads_X3_needsOf rfl rfl rfl (by decide +kernel) ⟨Nat.le_of_ble_eq_true rfl, Nat.le_of_ble_eq_true rfl⟩ dX3_beads_85 rfl (Nat.le_of_ble_eq_true rfl) ⟨Nat.le_of_ble_eq_true rfl, Nat.le_of_ble_eq_true rfl⟩ (fun r_85 V_7 G_8 hq_85 => ?_)
                  obtain ⟨rfl, rfl, rfl⟩ := hq_85
                  refine q_goto C 92 dX3_beads_88 (by decide) ?_
                  refine q_iadd C dX3_beads_92 ?_
                  refine q_istore_n C [(2, .int (s9 + ((nI (q_mneeds V pa (nI cc)))))), (3, .int (nI j)), (0, .ref (σ.2.1 19)), (1, .int (nI cc))] dX3_beads_93 rfl (by decide) rfl ?_
                  refine q_iincN C [(3, .int (nI (j + 1))), (2, .int (s9 + ((nI (q_mneeds V pa (nI cc)))))), (0, .ref (σ.2.1 19)), (1, .int (nI cc))] dX3_beads_94 1 rfl (by decide) rfl ?_
                  refine q_goto C 62 dX3_beads_97 (by decide) ?_
                  refine q_sub (lv' := [(2, .int (s9 + ((nI (q_mneeds V pa (nI cc)))))), (3, .int (nI (j + 1))), (0, .ref (σ.2.1 19)), (1, .int (nI cc))]) [1, 0, 2, 3] rfl ?_
                  exact ihL_4 (j + 1) _ (by omega) (by rw [hs9]; show _ = q_mbs V cc j + q_mbelt V j (nI cc); first | (rw [q_mbelt_n hb9] <;> rfl) | (rw [q_mbelt_y hb9 hpe (by omega)] <;> rfl)) (by omega)
          refine q_sub (lv' := [(2, .int (q_mhs V cc j)), (3, .int (nI 0)), (0, .ref (σ.2.1 19)), (1, .int (nI cc))]) [1, 0, 2, 3] rfl ?_
          exact L_4 _ 0 _ (Nat.zero_le _) (by rw [show j = 7 by omega]; rfl) (Nat.lt_succ_self _)
        · skip
          refine q_iload_n C dX3_beads_40 rfl 0 rfl ?_
          refine q_aload_n C dX3_beads_41 rfl 2 rfl ?_
          refine q_get C (k := 19) (fi := 1) (.ref (σ.2.1 69)) (by omega) q_enMO rfl iX3_beads_X3 (by decide) (by decide +kernel) rfl rfl dX3_beads_42 ?_
          refine q_bipush C (nI 8) dX3_beads_45 (by decide) ?_
          refine q_iload_n C dX3_beads_47 rfl 1 rfl ?_
          refine q_imulN C dX3_beads_48  ?_
          refine q_iload_n C dX3_beads_49 rfl 3 rfl ?_
          refine q_iaddN C dX3_beads_50  ?_
          refine q_ialdN C (k := 69) (n := 56) ⟨by decide, by decide, by decide⟩ (by omega) (by decide) dX3_beads_51 ?_
          refine q_stk (st' := [.int (V 69 ((8 * j) + cc)), .int (q_mhs V cc j)]) (congrArg (fun z => Value.int z :: [.int (q_mhs V cc j)]) (q_up_ne _ _ (by omega))) ?_
          refine q_iadd C dX3_beads_52 ?_
          refine q_istore_n C [(2, .int ((q_mhs V cc j) + (V 69 ((8 * j) + cc)))), (3, .int (nI j)), (0, .ref (σ.2.1 19)), (1, .int (nI cc))] dX3_beads_53 rfl (by decide) rfl ?_
          refine q_iincN C [(3, .int (nI (j + 1))), (2, .int ((q_mhs V cc j) + (V 69 ((8 * j) + cc)))), (0, .ref (σ.2.1 19)), (1, .int (nI cc))] dX3_beads_54 1 rfl (by decide) rfl ?_
          refine q_goto C 34 dX3_beads_57 (by decide) ?_
          refine q_sub (lv' := [(2, .int ((q_mhs V cc j) + (V 69 ((8 * j) + cc)))), (3, .int (nI (j + 1))), (0, .ref (σ.2.1 19)), (1, .int (nI cc))]) [1, 0, 2, 3] rfl ?_
          exact ihL_3 (j + 1) (by omega) (by omega)
    refine q_sub (lv' := [(2, .int (V 70 cc)), (3, .int (nI 0)), (0, .ref (σ.2.1 19)), (1, .int (nI cc))]) [1, 0, 2, 3] rfl ?_
    exact L_3 _ 0 (Nat.zero_le _) (Nat.lt_succ_self _)
abbrev rX3_story : Room := { frames := 5, cells := 0, slots := 0, locals := 109 }
set_option maxHeartbeats 4000000 in
set_option maxRecDepth 100000 in
/-- story, the reference -/
theorem kX3_story (l : Launch) (σ : q_E) (V : q_V) (G : q_G) {n : Nat} (hn : V 19 7 = nI n) (hn2 : n ≤ 12) (hp : q_mpats V n) {ns : Nat} (hs : V 19 20 = nI ns) (hs2 : ns ≤ 8) (hsg : q_msgs V ns) (x : Int32) : q_Mi l yX3_story wsX3_story rX3_story σ [.ref (σ.2.1 19), .int x] V G (fun r V' G' => q_mres V (q_c1 (q_ok n x)) (q_mstory V (q_n x) ns) (q_up V 19 0 (nI 0)) r V' ∧ G = G') 0 0 := by
  refine q_Mi_of (cc := cX3_story) (maxL := 2) (lv := [(0, .ref (σ.2.1 19)), (1, .int x)]) (by decide +kernel) rfl (Nat.le_of_ble_eq_true rfl) rfl ?_
  intro p e s m args below meth c Q C hR
  refine q_aload_n C dX3_story_0 rfl 0 rfl ?_
  refine q_iload_n C dX3_story_1 rfl 1 rfl ?_
  refine q_callVi C (As := [.int x]) (rest := []) (k := 19) (by omega) q_enMO rfl rfl (kX3_asks l σ V G hn hn2 x) 1 gX3_story_X3_asks rfl rfl rfl (by decide +kernel) ⟨Nat.le_of_ble_eq_true rfl, Nat.le_of_ble_eq_true rfl⟩ dX3_story_2 rfl (Nat.le_of_ble_eq_true rfl) ⟨Nat.le_of_ble_eq_true rfl, Nat.le_of_ble_eq_true rfl⟩ (fun r_2 V_1 G_2 hq_2 => ?_)
  obtain ⟨ha_2, rfl⟩ := hq_2
  refine q_if_eq C 16 dX3_story_5 (by decide) (fun c_5 => ?_) (fun c_5 => ?_)
  · skip
    rcases ha_2 with ⟨b_2, e2, e3⟩ | ⟨b_2, e2, e3⟩
    · rw [c_5] at e2; exact absurd e2 (by decide)
    subst e3
    refine q_iconst C (nI 0) dX3_story_16 (by decide) ?_
    refine hR _ _ _ _ _ _ _ ?_ rfl (Nat.le_of_ble_eq_true rfl) (Nat.le_of_ble_eq_true rfl) dX3_story_17
    refine ⟨?_, rfl⟩
    exact q_mres_1 (q_c1_1 b_2) (by decide) rfl
  · skip
    rcases ha_2 with ⟨b_2, e2, e3⟩ | ⟨b_2, e2, e3⟩
    rotate_left
    · exact absurd e2.symm c_5
    subst e3
    obtain ⟨a, ha, rfl⟩ := b_2
    refine q_aload_n C dX3_story_8 rfl 0 rfl ?_
    refine q_iload_n C dX3_story_9 rfl 1 rfl ?_
    refine q_callVi C (As := [.int (nI a)]) (rest := []) (k := 19) (by omega) q_enMO rfl rfl (kX3_storyOf l σ (q_up V 19 0 (nI 0)) G (n := ns) (pa := a) hs hs2 (by omega) (hp a ha) hsg) 1 gX3_story_X3_storyOf rfl rfl rfl (by decide +kernel) ⟨Nat.le_of_ble_eq_true rfl, Nat.le_of_ble_eq_true rfl⟩ dX3_story_10 rfl (Nat.le_of_ble_eq_true rfl) ⟨Nat.le_of_ble_eq_true rfl, Nat.le_of_ble_eq_true rfl⟩ (fun r_10 V_3 G_4 hq_10 => ?_)
    obtain ⟨rfl, rfl, rfl⟩ := hq_10
    refine q_goto C 17 dX3_story_13 (by decide) ?_
    refine hR _ _ _ _ _ _ _ ?_ rfl (Nat.le_of_ble_eq_true rfl) (Nat.le_of_ble_eq_true rfl) dX3_story_17
    refine ⟨?_, rfl⟩
    simp only [q_n_nI (n := a) (by omega)]
    exact q_mres_0 (q_c1_0 (q_ok_nI ha)) (q_mstory_up V a ns _) rfl
abbrev rX3_stands : Room := { frames := 4, cells := 0, slots := 0, locals := 86 }
theorem iX3_stands_X3 : ∀ w ∈ u_ws RX3 TX3 26, w ∈ wsX3_stands := by decide +kernel
set_option maxHeartbeats 4000000 in
set_option maxRecDepth 100000 in
/-- stands, the reference -/
theorem kX3_stands (l : Launch) (σ : q_E) (V : q_V) (G : q_G) {n : Nat} (hn : V 19 7 = nI n) (hn2 : n ≤ 12) (hp : q_mpats V n) {ns : Nat} (hs : V 19 20 = nI ns) (hs2 : ns ≤ 8) (hsg : q_msgs V ns) (x y : Int32) : q_Mi l yX3_stands wsX3_stands rX3_stands σ [.ref (σ.2.1 19), .int x, .int y] V G (fun r V' G' => q_mres V (q_c1 (q_ok ns x ∧ q_ok n y)) (nI (q_mplaces V (q_n x) (q_n y) (q_n (V 73 (q_n y))) (q_n (V 74 (q_n y))) (q_n (V 85 (q_n x))) (q_n (V 86 (q_n x))))) (q_up V 19 0 (nI 0)) r V' ∧ G = G') 0 0 := by
  refine q_Mi_of (cc := cX3_stands) (maxL := 3) (lv := [(0, .ref (σ.2.1 19)), (1, .int x), (2, .int y)]) (by decide +kernel) rfl (Nat.le_of_ble_eq_true rfl) rfl ?_
  intro p e s m args below meth c Q C hR
  refine q_aload_n C dX3_stands_0 rfl 0 rfl ?_
  refine q_iload_n C dX3_stands_1 rfl 1 rfl ?_
  refine q_iconst C (nI 0) dX3_stands_2 (by decide) ?_
  refine q_aload_n C dX3_stands_3 rfl 0 rfl ?_
  refine q_get C (k := 19) (fi := 20) (.int (nI ns)) (by omega) q_enMO rfl iX3_stands_X3 (by decide) (by decide +kernel) rfl (congrArg (fun z => some (Value.int z)) (hs)) dX3_stands_4 ?_
  refine q_iconst C (nI 1) dX3_stands_7 (by decide) ?_
  refine q_isub C dX3_stands_8 ?_
  refine q_callSi C (As := [.int x, .int (nI 0), .int (nI ns - nI 1)]) (rest := [.ref (σ.2.1 19)]) (kX3_isIn l σ V G x (nI 0) (nI ns - nI 1)) 3 gX3_stands_X3_isIn rfl rfl rfl (by decide +kernel) ⟨Nat.le_of_ble_eq_true rfl, Nat.le_of_ble_eq_true rfl⟩ dX3_stands_9 rfl (Nat.le_of_ble_eq_true rfl) ⟨Nat.le_of_ble_eq_true rfl, Nat.le_of_ble_eq_true rfl⟩ (fun r_9 V_1 G_2 hq_9 => ?_)
  obtain ⟨hs_9, rfl, rfl⟩ := hq_9
  refine q_if_eq C 27 dX3_stands_12 (by decide) (fun c_12 => ?_) (fun c_12 => ?_)
  · skip
    have b_9 := (q_is_eq hs_9).mp c_12
    refine q_iconst C (nI 1) dX3_stands_27 (by decide) ?_
    refine q_put C (k := 19) (fi := 0) tyX3 tyX3_ok nmX3 (by omega) q_enMO rfl iX3_stands_X3 (by decide) (by decide +kernel) rfl rfl (by decide +kernel) (Nat.le_of_ble_eq_true rfl) (q_enMO |>.trans (by simp [q_up])) dX3_stands_28 ?_
    refine q_aload_n C dX3_stands_31 rfl 0 rfl ?_
    refine q_get C (k := 19) (fi := 0) (.int (nI 1)) (by omega) q_enMO rfl iX3_stands_X3 (by decide) (by decide +kernel) rfl (congrArg (fun z => some (Value.int z)) (q_up_self _ _ _ _)) dX3_stands_32 ?_
    refine q_if_le C 42 dX3_stands_35 (by decide) (fun c_35 => absurd c_35 (by decide)) (fun _ => ?_)
    refine q_iconst C (nI 0) dX3_stands_38 (by decide) ?_
    refine q_goto C 48 dX3_stands_39 (by decide) ?_
    refine hR _ _ _ _ _ _ _ ?_ rfl (Nat.le_of_ble_eq_true rfl) (Nat.le_of_ble_eq_true rfl) dX3_stands_48
    refine ⟨?_, rfl⟩
    first | exact q_mres_1 (q_c1_1 (fun q => b_9 ((q_in_ok2 (by omega)).mpr q.1))) (by decide) rfl | exact q_mres_1 (q_c1_1 (fun q => b_17 q.2)) (by decide) rfl
  · skip
    have b_9 := (q_is_ne hs_9).mp c_12
    refine q_aload_n C dX3_stands_15 rfl 0 rfl ?_
    refine q_iload_n C dX3_stands_16 rfl 2 rfl ?_
    refine q_callVi C (As := [.int y]) (rest := [.ref (σ.2.1 19)]) (k := 19) (by omega) q_enMO rfl rfl (kX3_isPattern l σ V G hn hn2 y) 1 gX3_stands_X3_isPattern rfl rfl rfl (by decide +kernel) ⟨Nat.le_of_ble_eq_true rfl, Nat.le_of_ble_eq_true rfl⟩ dX3_stands_17 rfl (Nat.le_of_ble_eq_true rfl) ⟨Nat.le_of_ble_eq_true rfl, Nat.le_of_ble_eq_true rfl⟩ (fun r_17 V_3 G_4 hq_17 => ?_)
    obtain ⟨hs_17, rfl, rfl⟩ := hq_17
    refine q_if_eq C 27 dX3_stands_20 (by decide) (fun c_20 => ?_) (fun c_20 => ?_)
    · skip
      have b_17 := (q_is_eq hs_17).mp c_20
      refine q_iconst C (nI 1) dX3_stands_27 (by decide) ?_
      refine q_put C (k := 19) (fi := 0) tyX3 tyX3_ok nmX3 (by omega) q_enMO rfl iX3_stands_X3 (by decide) (by decide +kernel) rfl rfl (by decide +kernel) (Nat.le_of_ble_eq_true rfl) (q_enMO |>.trans (by simp [q_up])) dX3_stands_28 ?_
      refine q_aload_n C dX3_stands_31 rfl 0 rfl ?_
      refine q_get C (k := 19) (fi := 0) (.int (nI 1)) (by omega) q_enMO rfl iX3_stands_X3 (by decide) (by decide +kernel) rfl (congrArg (fun z => some (Value.int z)) (q_up_self _ _ _ _)) dX3_stands_32 ?_
      refine q_if_le C 42 dX3_stands_35 (by decide) (fun c_35 => absurd c_35 (by decide)) (fun _ => ?_)
      refine q_iconst C (nI 0) dX3_stands_38 (by decide) ?_
      refine q_goto C 48 dX3_stands_39 (by decide) ?_
      refine hR _ _ _ _ _ _ _ ?_ rfl (Nat.le_of_ble_eq_true rfl) (Nat.le_of_ble_eq_true rfl) dX3_stands_48
      refine ⟨?_, rfl⟩
      first | exact q_mres_1 (q_c1_1 (fun q => b_9 ((q_in_ok2 (by omega)).mpr q.1))) (by decide) rfl | exact q_mres_1 (q_c1_1 (fun q => b_17 q.2)) (by decide) rfl
    · skip
      have b_17 := (q_is_ne hs_17).mp c_20
      obtain ⟨a, ha, rfl⟩ := (q_in_ok2 (by omega)).mp b_9
      obtain ⟨cc, hcc, rfl⟩ := b_17
      refine q_iconst C (nI 0) dX3_stands_23 (by decide) ?_
      refine q_goto C 28 dX3_stands_24 (by decide) ?_
      refine q_put C (k := 19) (fi := 0) tyX3 tyX3_ok nmX3 (by omega) q_enMO rfl iX3_stands_X3 (by decide) (by decide +kernel) rfl rfl (by decide +kernel) (Nat.le_of_ble_eq_true rfl) (q_enMO |>.trans (by simp [q_up])) dX3_stands_28 ?_
      refine q_aload_n C dX3_stands_31 rfl 0 rfl ?_
      refine q_get C (k := 19) (fi := 0) (.int (nI 0)) (by omega) q_enMO rfl iX3_stands_X3 (by decide) (by decide +kernel) rfl (congrArg (fun z => some (Value.int z)) (q_up_self _ _ _ _)) dX3_stands_32 ?_
      refine q_if_le C 42 dX3_stands_35 (by decide) (fun _ => ?_) (fun c_35 => absurd c_35 (by decide))
      refine q_aload_n C dX3_stands_42 rfl 0 rfl ?_
      refine q_iload_n C dX3_stands_43 rfl 1 rfl ?_
      refine q_iload_n C dX3_stands_44 rfl 2 rfl ?_
      refine q_callVi C (As := [.int (nI a), .int (nI cc)]) (rest := []) (k := 19) (by omega) q_enMO rfl rfl (kX3_standsIn l σ (q_up V 19 0 (nI 0)) G (t := a) (pa := cc) (by omega) (hsg a ha) (by omega) (hp cc hcc)) 2 gX3_stands_X3_standsIn rfl rfl rfl (by decide +kernel) ⟨Nat.le_of_ble_eq_true rfl, Nat.le_of_ble_eq_true rfl⟩ dX3_stands_45 rfl (Nat.le_of_ble_eq_true rfl) ⟨Nat.le_of_ble_eq_true rfl, Nat.le_of_ble_eq_true rfl⟩ (fun r_45 V_5 G_6 hq_45 => ?_)
      obtain ⟨rfl, rfl, rfl⟩ := hq_45
      refine hR _ _ _ _ _ _ _ ?_ rfl (Nat.le_of_ble_eq_true rfl) (Nat.le_of_ble_eq_true rfl) dX3_stands_48
      refine ⟨?_, rfl⟩
      simp only [q_n_nI (n := a) (by omega), q_n_nI (n := cc) (by omega)]
      exact q_mres_0 (q_c1_0 ⟨q_ok_nI ha, q_ok_nI hcc⟩) rfl rfl
abbrev rX3_hear : Room := { frames := 5, cells := 0, slots := 0, locals := 109 }
theorem iX3_hear_X3 : ∀ w ∈ u_ws RX3 TX3 26, w ∈ wsX3_hear := by decide +kernel
set_option maxHeartbeats 4000000 in
set_option maxRecDepth 100000 in
/-- hear, the reference -/
theorem kX3_hear (l : Launch) (σ : q_E) (V : q_V) (G : q_G) {n : Nat} (hn2 : n ≤ 12) (hp : q_mpats V n) (hbl : q_mbelts V n) {ns : Nat} (hs : V 19 20 = nI ns) (hs2 : ns ≤ 8) (hsg : q_msgs V ns) (x y : Int32) : q_Ml l yX3_hear wsX3_hear rX3_hear σ [.ref (σ.2.1 19), .int x, .int y] V G (fun r V' G' => ((q_c1 ((q_isb V x) ∧ q_ok 7 y) = 0 ∧ G 89 (q_n y) + (q_mstory V (q_n (V 78 (q_n x))) ns).toInt64 = r ∧ (q_up V 19 0 (nI 0)) = V' ∧ q_upL G 89 (q_n y) (G 89 (q_n y) + (q_mstory V (q_n (V 78 (q_n x))) ns).toInt64) = G') ∨ (q_c1 ((q_isb V x) ∧ q_ok 7 y) ≠ 0 ∧ q_up V 19 0 (nI (q_c1 ((q_isb V x) ∧ q_ok 7 y))) = V' ∧ G = G'))) 0 0 := by
  refine q_Ml_of (cc := cX3_hear) (maxL := 3) (lv := [(0, .ref (σ.2.1 19)), (1, .int x), (2, .int y)]) (by decide +kernel) rfl (Nat.le_of_ble_eq_true rfl) rfl ?_
  intro p e s m args below meth c Q C hR
  refine q_aload_n C dX3_hear_0 rfl 0 rfl ?_
  refine q_aload_n C dX3_hear_1 rfl 0 rfl ?_
  refine q_iload_n C dX3_hear_2 rfl 1 rfl ?_
  refine q_callVi C (As := [.int x]) (rest := [.ref (σ.2.1 19)]) (k := 19) (by omega) q_enMO rfl rfl (kX3_isBelt l σ V G x) 1 gX3_hear_X3_isBelt rfl rfl rfl (by decide +kernel) ⟨Nat.le_of_ble_eq_true rfl, Nat.le_of_ble_eq_true rfl⟩ dX3_hear_3 rfl (Nat.le_of_ble_eq_true rfl) ⟨Nat.le_of_ble_eq_true rfl, Nat.le_of_ble_eq_true rfl⟩ (fun r_3 V_1 G_2 hq_3 => ?_)
  obtain ⟨hs_3, rfl, rfl⟩ := hq_3
  refine q_if_eq C 20 dX3_hear_6 (by decide) (fun c_6 => ?_) (fun c_6 => ?_)
  · skip
    have b_3 := (q_is_eq hs_3).mp c_6
    refine q_iconst C (nI 1) dX3_hear_20 (by decide) ?_
    refine q_put C (k := 19) (fi := 0) tyX3 tyX3_ok nmX3 (by omega) q_enMO rfl iX3_hear_X3 (by decide) (by decide +kernel) rfl rfl (by decide +kernel) (Nat.le_of_ble_eq_true rfl) (q_enMO |>.trans (by simp [q_up])) dX3_hear_21 ?_
    refine q_aload_n C dX3_hear_24 rfl 0 rfl ?_
    refine q_get C (k := 19) (fi := 0) (.int (nI 1)) (by omega) q_enMO rfl iX3_hear_X3 (by decide) (by decide +kernel) rfl (congrArg (fun z => some (Value.int z)) (q_up_self _ _ _ _)) dX3_hear_25 ?_
    refine q_if_le C 33 dX3_hear_28 (by decide) (fun c_28 => absurd c_28 (by decide)) (fun _ => ?_)
    refine q_lconst C 0 dX3_hear_31 (by decide) ?_
    refine hR _ _ _ _ _ _ _ ?_ (Nat.le_of_ble_eq_true rfl) (Nat.le_of_ble_eq_true rfl) dX3_hear_32
    have e9 : q_c1 ((q_isb V x) ∧ q_ok 7 y) = 1 := by first | exact q_c1_1 (fun q => b_3 q.1) | exact q_c1_1 (fun q => b_10 q.2)
    rw [e9]
    exact Or.inr ⟨by decide, rfl, rfl⟩
  · skip
    have b_3 := (q_is_ne hs_3).mp c_6
    refine q_iload_n C dX3_hear_9 rfl 2 rfl ?_
    refine q_callSi C (As := [.int y]) (rest := [.ref (σ.2.1 19)]) (kX3_isPerson l σ V G y) 1 gX3_hear_X3_isPerson rfl rfl rfl (by decide +kernel) ⟨Nat.le_of_ble_eq_true rfl, Nat.le_of_ble_eq_true rfl⟩ dX3_hear_10 rfl (Nat.le_of_ble_eq_true rfl) ⟨Nat.le_of_ble_eq_true rfl, Nat.le_of_ble_eq_true rfl⟩ (fun r_10 V_3 G_4 hq_10 => ?_)
    obtain ⟨hs_10, rfl, rfl⟩ := hq_10
    refine q_if_eq C 20 dX3_hear_13 (by decide) (fun c_13 => ?_) (fun c_13 => ?_)
    · skip
      have b_10 := (q_is_eq hs_10).mp c_13
      refine q_iconst C (nI 1) dX3_hear_20 (by decide) ?_
      refine q_put C (k := 19) (fi := 0) tyX3 tyX3_ok nmX3 (by omega) q_enMO rfl iX3_hear_X3 (by decide) (by decide +kernel) rfl rfl (by decide +kernel) (Nat.le_of_ble_eq_true rfl) (q_enMO |>.trans (by simp [q_up])) dX3_hear_21 ?_
      refine q_aload_n C dX3_hear_24 rfl 0 rfl ?_
      refine q_get C (k := 19) (fi := 0) (.int (nI 1)) (by omega) q_enMO rfl iX3_hear_X3 (by decide) (by decide +kernel) rfl (congrArg (fun z => some (Value.int z)) (q_up_self _ _ _ _)) dX3_hear_25 ?_
      refine q_if_le C 33 dX3_hear_28 (by decide) (fun c_28 => absurd c_28 (by decide)) (fun _ => ?_)
      refine q_lconst C 0 dX3_hear_31 (by decide) ?_
      refine hR _ _ _ _ _ _ _ ?_ (Nat.le_of_ble_eq_true rfl) (Nat.le_of_ble_eq_true rfl) dX3_hear_32
      have e9 : q_c1 ((q_isb V x) ∧ q_ok 7 y) = 1 := by first | exact q_c1_1 (fun q => b_3 q.1) | exact q_c1_1 (fun q => b_10 q.2)
      rw [e9]
      exact Or.inr ⟨by decide, rfl, rfl⟩
    · skip
      have b_10 := (q_is_ne hs_10).mp c_13
      obtain ⟨b, hb, rfl, hb9⟩ := b_3
      obtain ⟨a, ha, rfl⟩ := b_10
      obtain ⟨pa, hpa, hpe⟩ := (hbl b hb).resolve_left hb9
      refine q_iconst C (nI 0) dX3_hear_16 (by decide) ?_
      refine q_goto C 21 dX3_hear_17 (by decide) ?_
      refine q_put C (k := 19) (fi := 0) tyX3 tyX3_ok nmX3 (by omega) q_enMO rfl iX3_hear_X3 (by decide) (by decide +kernel) rfl rfl (by decide +kernel) (Nat.le_of_ble_eq_true rfl) (q_enMO |>.trans (by simp [q_up])) dX3_hear_21 ?_
      refine q_aload_n C dX3_hear_24 rfl 0 rfl ?_
      refine q_get C (k := 19) (fi := 0) (.int (nI 0)) (by omega) q_enMO rfl iX3_hear_X3 (by decide) (by decide +kernel) rfl (congrArg (fun z => some (Value.int z)) (q_up_self _ _ _ _)) dX3_hear_25 ?_
      refine q_if_le C 33 dX3_hear_28 (by decide) (fun _ => ?_) (fun c_28 => absurd c_28 (by decide))
      refine q_aload_n C dX3_hear_33 rfl 0 rfl ?_
      refine q_get C (k := 19) (fi := 25) (.ref (σ.2.1 89)) (by omega) q_enMO rfl iX3_hear_X3 (by decide) (by decide +kernel) rfl rfl dX3_hear_34 ?_
      refine q_iload_n C dX3_hear_37 rfl 2 rfl ?_
      refine q_dup2 C dX3_hear_38 rfl rfl ?_
      refine q_laldN C (k := 89) (n := 7) ⟨by decide, by decide, by decide⟩ (by omega) (by decide) dX3_hear_39 ?_
      refine q_aload_n C dX3_hear_40 rfl 0 rfl ?_
      refine q_aload_n C dX3_hear_41 rfl 0 rfl ?_
      refine q_get C (k := 19) (fi := 13) (.ref (σ.2.1 78)) (by omega) q_enMO rfl iX3_hear_X3 (by decide) (by decide +kernel) rfl rfl dX3_hear_42 ?_
      refine q_iload_n C dX3_hear_45 rfl 1 rfl ?_
      refine q_ialdN C (k := 78) (n := 20) ⟨by decide, by decide, by decide⟩ (by omega) (by decide) dX3_hear_46 ?_
      refine q_stk (st' := [.int (V 78 b), .ref (σ.2.1 19), .long (G 89 a), .int (nI a), .ref (σ.2.1 89)]) (congrArg (fun z => Value.int z :: [.ref (σ.2.1 19), .long (G 89 a), .int (nI a), .ref (σ.2.1 89)]) (q_up_ne _ _ (by omega))) ?_
      refine q_stk (st' := [.int (nI pa), .ref (σ.2.1 19), .long (G 89 a), .int (nI a), .ref (σ.2.1 89)]) (congrArg (fun z => Value.int z :: [.ref (σ.2.1 19), .long (G 89 a), .int (nI a), .ref (σ.2.1 89)]) (hpe)) ?_
      refine q_callVi C (As := [.int (nI pa)]) (rest := [.long (G 89 a), .int (nI a), .ref (σ.2.1 89)]) (k := 19) (by omega) q_enMO rfl rfl (kX3_storyOf l σ (q_up V 19 0 (nI 0)) G (n := ns) (pa := pa) hs hs2 (by omega) (hp pa hpa) hsg) 1 gX3_hear_X3_storyOf rfl rfl rfl (by decide +kernel) ⟨Nat.le_of_ble_eq_true rfl, Nat.le_of_ble_eq_true rfl⟩ dX3_hear_47 rfl (Nat.le_of_ble_eq_true rfl) ⟨Nat.le_of_ble_eq_true rfl, Nat.le_of_ble_eq_true rfl⟩ (fun r_47 V_5 G_6 hq_47 => ?_)
      obtain ⟨rfl, rfl, rfl⟩ := hq_47
      refine q_i2l C dX3_hear_50 ?_
      refine q_ladd C dX3_hear_51 ?_
      refine q_lastN C (k := 89) (n := 7) ⟨by decide, by decide, by decide⟩ (by omega) (by decide) dX3_hear_52 ?_
      refine q_aload_n C dX3_hear_53 rfl 0 rfl ?_
      refine q_get C (k := 19) (fi := 25) (.ref (σ.2.1 89)) (by omega) q_enMO rfl iX3_hear_X3 (by decide) (by decide +kernel) rfl rfl dX3_hear_54 ?_
      refine q_iload_n C dX3_hear_57 rfl 2 rfl ?_
      refine q_laldN C (k := 89) (n := 7) ⟨by decide, by decide, by decide⟩ (by omega) (by decide) dX3_hear_58 ?_
      refine hR _ _ _ _ _ _ _ ?_ (Nat.le_of_ble_eq_true rfl) (Nat.le_of_ble_eq_true rfl) dX3_hear_59
      refine Or.inl ⟨q_c1_0 ⟨⟨b, hb, rfl, hb9⟩, q_ok_nI ha⟩, ?_⟩
      rw [q_n_nI (n := a) (by omega), q_n_nI (n := b) (by omega), hpe, q_n_nI (n := pa) (by omega)]
      have e8 := q_mstory_up V pa ns (nI 0)
      refine ⟨?_, rfl, ?_⟩
      · rw [q_upL_self, ← e8] <;> rfl
      · rw [← e8] <;> rfl
abbrev rX3_give : Room := { frames := 3, cells := 0, slots := 0, locals := 55 }
theorem iX3_give_X3 : ∀ w ∈ u_ws RX3 TX3 26, w ∈ wsX3_give := by decide +kernel
set_option maxHeartbeats 4000000 in
set_option maxRecDepth 100000 in
/-- give, the reference -/
theorem kX3_give (l : Launch) (σ : q_E) (V : q_V) (G : q_G) (x y : Int32) : q_Mi l yX3_give wsX3_give rX3_give σ [.ref (σ.2.1 19), .int x, .int y] V G (fun r V' G' => q_mres V (q_c1 ((q_isb V x) ∧ q_ok 7 y)) (V 79 (q_n x)) (q_up (q_up V 19 0 (nI 0)) 79 (q_n x) y) r V' ∧ G = G') 0 0 := by
  refine q_Mi_of (cc := cX3_give) (maxL := 4) (lv := [(0, .ref (σ.2.1 19)), (1, .int x), (2, .int y)]) (by decide +kernel) rfl (Nat.le_of_ble_eq_true rfl) rfl ?_
  intro p e s m args below meth c Q C hR
  refine q_aload_n C dX3_give_0 rfl 0 rfl ?_
  refine q_aload_n C dX3_give_1 rfl 0 rfl ?_
  refine q_iload_n C dX3_give_2 rfl 1 rfl ?_
  refine q_callVi C (As := [.int x]) (rest := [.ref (σ.2.1 19)]) (k := 19) (by omega) q_enMO rfl rfl (kX3_isBelt l σ V G x) 1 gX3_give_X3_isBelt rfl rfl rfl (by decide +kernel) ⟨Nat.le_of_ble_eq_true rfl, Nat.le_of_ble_eq_true rfl⟩ dX3_give_3 rfl (Nat.le_of_ble_eq_true rfl) ⟨Nat.le_of_ble_eq_true rfl, Nat.le_of_ble_eq_true rfl⟩ (fun r_3 V_1 G_2 hq_3 => ?_)
  obtain ⟨hs_3, rfl, rfl⟩ := hq_3
  refine q_if_eq C 20 dX3_give_6 (by decide) (fun c_6 => ?_) (fun c_6 => ?_)
  · skip
    have b_3 := (q_is_eq hs_3).mp c_6
    refine q_iconst C (nI 1) dX3_give_20 (by decide) ?_
    refine q_put C (k := 19) (fi := 0) tyX3 tyX3_ok nmX3 (by omega) q_enMO rfl iX3_give_X3 (by decide) (by decide +kernel) rfl rfl (by decide +kernel) (Nat.le_of_ble_eq_true rfl) (q_enMO |>.trans (by simp [q_up])) dX3_give_21 ?_
    refine q_aload_n C dX3_give_24 rfl 0 rfl ?_
    refine q_get C (k := 19) (fi := 0) (.int (nI 1)) (by omega) q_enMO rfl iX3_give_X3 (by decide) (by decide +kernel) rfl (congrArg (fun z => some (Value.int z)) (q_up_self _ _ _ _)) dX3_give_25 ?_
    refine q_if_le C 33 dX3_give_28 (by decide) (fun c_28 => absurd c_28 (by decide)) (fun _ => ?_)
    refine q_iconst C (nI 0) dX3_give_31 (by decide) ?_
    refine hR _ _ _ _ _ _ _ ?_ rfl (Nat.le_of_ble_eq_true rfl) (Nat.le_of_ble_eq_true rfl) dX3_give_32
    refine ⟨?_, rfl⟩
    first | exact q_mres_1 (q_c1_1 (fun q => b_3 q.1)) (by decide) rfl | exact q_mres_1 (q_c1_1 (fun q => b_10 q.2)) (by decide) rfl
  · skip
    have b_3 := (q_is_ne hs_3).mp c_6
    refine q_iload_n C dX3_give_9 rfl 2 rfl ?_
    refine q_callSi C (As := [.int y]) (rest := [.ref (σ.2.1 19)]) (kX3_isPerson l σ V G y) 1 gX3_give_X3_isPerson rfl rfl rfl (by decide +kernel) ⟨Nat.le_of_ble_eq_true rfl, Nat.le_of_ble_eq_true rfl⟩ dX3_give_10 rfl (Nat.le_of_ble_eq_true rfl) ⟨Nat.le_of_ble_eq_true rfl, Nat.le_of_ble_eq_true rfl⟩ (fun r_10 V_3 G_4 hq_10 => ?_)
    obtain ⟨hs_10, rfl, rfl⟩ := hq_10
    refine q_if_eq C 20 dX3_give_13 (by decide) (fun c_13 => ?_) (fun c_13 => ?_)
    · skip
      have b_10 := (q_is_eq hs_10).mp c_13
      refine q_iconst C (nI 1) dX3_give_20 (by decide) ?_
      refine q_put C (k := 19) (fi := 0) tyX3 tyX3_ok nmX3 (by omega) q_enMO rfl iX3_give_X3 (by decide) (by decide +kernel) rfl rfl (by decide +kernel) (Nat.le_of_ble_eq_true rfl) (q_enMO |>.trans (by simp [q_up])) dX3_give_21 ?_
      refine q_aload_n C dX3_give_24 rfl 0 rfl ?_
      refine q_get C (k := 19) (fi := 0) (.int (nI 1)) (by omega) q_enMO rfl iX3_give_X3 (by decide) (by decide +kernel) rfl (congrArg (fun z => some (Value.int z)) (q_up_self _ _ _ _)) dX3_give_25 ?_
      refine q_if_le C 33 dX3_give_28 (by decide) (fun c_28 => absurd c_28 (by decide)) (fun _ => ?_)
      refine q_iconst C (nI 0) dX3_give_31 (by decide) ?_
      refine hR _ _ _ _ _ _ _ ?_ rfl (Nat.le_of_ble_eq_true rfl) (Nat.le_of_ble_eq_true rfl) dX3_give_32
      refine ⟨?_, rfl⟩
      first | exact q_mres_1 (q_c1_1 (fun q => b_3 q.1)) (by decide) rfl | exact q_mres_1 (q_c1_1 (fun q => b_10 q.2)) (by decide) rfl
    · skip
      have b_10 := (q_is_ne hs_10).mp c_13
      obtain ⟨b, hb, rfl, hb9⟩ := b_3
      obtain ⟨a, ha, rfl⟩ := b_10
      refine q_iconst C (nI 0) dX3_give_16 (by decide) ?_
      refine q_goto C 21 dX3_give_17 (by decide) ?_
      refine q_put C (k := 19) (fi := 0) tyX3 tyX3_ok nmX3 (by omega) q_enMO rfl iX3_give_X3 (by decide) (by decide +kernel) rfl rfl (by decide +kernel) (Nat.le_of_ble_eq_true rfl) (q_enMO |>.trans (by simp [q_up])) dX3_give_21 ?_
      refine q_aload_n C dX3_give_24 rfl 0 rfl ?_
      refine q_get C (k := 19) (fi := 0) (.int (nI 0)) (by omega) q_enMO rfl iX3_give_X3 (by decide) (by decide +kernel) rfl (congrArg (fun z => some (Value.int z)) (q_up_self _ _ _ _)) dX3_give_25 ?_
      refine q_if_le C 33 dX3_give_28 (by decide) (fun _ => ?_) (fun c_28 => absurd c_28 (by decide))
      refine q_aload_n C dX3_give_33 rfl 0 rfl ?_
      refine q_get C (k := 19) (fi := 14) (.ref (σ.2.1 79)) (by omega) q_enMO rfl iX3_give_X3 (by decide) (by decide +kernel) rfl rfl dX3_give_34 ?_
      refine q_iload_n C dX3_give_37 rfl 1 rfl ?_
      refine q_ialdN C (k := 79) (n := 20) ⟨by decide, by decide, by decide⟩ (by omega) (by decide) dX3_give_38 ?_
      refine q_stk (st' := [.int (V 79 b)]) (congrArg (fun z => Value.int z :: []) (q_up_ne _ _ (by omega))) ?_
      refine q_istore_n C [(3, .int (V 79 b)), (0, .ref (σ.2.1 19)), (1, .int (nI b)), (2, .int (nI a))] dX3_give_39 rfl (by decide) rfl ?_
      refine q_aload_n C dX3_give_40 rfl 1 rfl ?_
      refine q_get C (k := 19) (fi := 14) (.ref (σ.2.1 79)) (by omega) q_enMO rfl iX3_give_X3 (by decide) (by decide +kernel) rfl rfl dX3_give_41 ?_
      refine q_iload_n C dX3_give_44 rfl 2 rfl ?_
      refine q_iload_n C dX3_give_45 rfl 3 rfl ?_
      refine q_iastN C (k := 79) (n := 20) ⟨by decide, by decide, by decide⟩ (by omega) (by decide) dX3_give_46 ?_
      refine q_iload_n C dX3_give_47 rfl 0 rfl ?_
      refine hR _ _ _ _ _ _ _ ?_ rfl (Nat.le_of_ble_eq_true rfl) (Nat.le_of_ble_eq_true rfl) dX3_give_48
      refine ⟨?_, rfl⟩
      simp only [q_n_nI (n := b) (by omega)]
      exact q_mres_0 (q_c1_0 ⟨⟨b, hb, rfl, hb9⟩, q_ok_nI ha⟩) rfl rfl
abbrev rX3_owner : Room := { frames := 3, cells := 0, slots := 0, locals := 55 }
theorem iX3_owner_X3 : ∀ w ∈ u_ws RX3 TX3 26, w ∈ wsX3_owner := by decide +kernel
set_option maxHeartbeats 4000000 in
set_option maxRecDepth 100000 in
/-- owner, the reference -/
theorem kX3_owner (l : Launch) (σ : q_E) (V : q_V) (G : q_G) (x : Int32) : q_Mi l yX3_owner wsX3_owner rX3_owner σ [.ref (σ.2.1 19), .int x] V G (fun r V' G' => q_mres V (q_c1 (q_isb V x)) (V 79 (q_n x)) (q_up V 19 0 (nI 0)) r V' ∧ G = G') 0 0 := by
  refine q_Mi_of (cc := cX3_owner) (maxL := 2) (lv := [(0, .ref (σ.2.1 19)), (1, .int x)]) (by decide +kernel) rfl (Nat.le_of_ble_eq_true rfl) rfl ?_
  intro p e s m args below meth c Q C hR
  refine q_aload_n C dX3_owner_0 rfl 0 rfl ?_
  refine q_aload_n C dX3_owner_1 rfl 0 rfl ?_
  refine q_iload_n C dX3_owner_2 rfl 1 rfl ?_
  refine q_callVi C (As := [.int x]) (rest := [.ref (σ.2.1 19)]) (k := 19) (by omega) q_enMO rfl rfl (kX3_isBelt l σ V G x) 1 gX3_owner_X3_isBelt rfl rfl rfl (by decide +kernel) ⟨Nat.le_of_ble_eq_true rfl, Nat.le_of_ble_eq_true rfl⟩ dX3_owner_3 rfl (Nat.le_of_ble_eq_true rfl) ⟨Nat.le_of_ble_eq_true rfl, Nat.le_of_ble_eq_true rfl⟩ (fun r_3 V_1 G_2 hq_3 => ?_)
  obtain ⟨hs_3, rfl, rfl⟩ := hq_3
  refine q_if_eq C 13 dX3_owner_6 (by decide) (fun c_6 => ?_) (fun c_6 => ?_)
  · skip
    have b_3 := (q_is_eq hs_3).mp c_6
    refine q_iconst C (nI 1) dX3_owner_13 (by decide) ?_
    refine q_put C (k := 19) (fi := 0) tyX3 tyX3_ok nmX3 (by omega) q_enMO rfl iX3_owner_X3 (by decide) (by decide +kernel) rfl rfl (by decide +kernel) (Nat.le_of_ble_eq_true rfl) (q_enMO |>.trans (by simp [q_up])) dX3_owner_14 ?_
    refine q_aload_n C dX3_owner_17 rfl 0 rfl ?_
    refine q_get C (k := 19) (fi := 0) (.int (nI 1)) (by omega) q_enMO rfl iX3_owner_X3 (by decide) (by decide +kernel) rfl (congrArg (fun z => some (Value.int z)) (q_up_self _ _ _ _)) dX3_owner_18 ?_
    refine q_if_le C 28 dX3_owner_21 (by decide) (fun c_21 => absurd c_21 (by decide)) (fun _ => ?_)
    refine q_iconst C (nI 0) dX3_owner_24 (by decide) ?_
    refine q_goto C 34 dX3_owner_25 (by decide) ?_
    refine hR _ _ _ _ _ _ _ ?_ rfl (Nat.le_of_ble_eq_true rfl) (Nat.le_of_ble_eq_true rfl) dX3_owner_34
    refine ⟨?_, rfl⟩
    exact q_mres_1 (q_c1_1 b_3) (by decide) rfl
  · skip
    have b_3 := (q_is_ne hs_3).mp c_6
    obtain ⟨b, hb, rfl, hb9⟩ := b_3
    refine q_iconst C (nI 0) dX3_owner_9 (by decide) ?_
    refine q_goto C 14 dX3_owner_10 (by decide) ?_
    refine q_put C (k := 19) (fi := 0) tyX3 tyX3_ok nmX3 (by omega) q_enMO rfl iX3_owner_X3 (by decide) (by decide +kernel) rfl rfl (by decide +kernel) (Nat.le_of_ble_eq_true rfl) (q_enMO |>.trans (by simp [q_up])) dX3_owner_14 ?_
    refine q_aload_n C dX3_owner_17 rfl 0 rfl ?_
    refine q_get C (k := 19) (fi := 0) (.int (nI 0)) (by omega) q_enMO rfl iX3_owner_X3 (by decide) (by decide +kernel) rfl (congrArg (fun z => some (Value.int z)) (q_up_self _ _ _ _)) dX3_owner_18 ?_
    refine q_if_le C 28 dX3_owner_21 (by decide) (fun _ => ?_) (fun c_21 => absurd c_21 (by decide))
    refine q_aload_n C dX3_owner_28 rfl 0 rfl ?_
    refine q_get C (k := 19) (fi := 14) (.ref (σ.2.1 79)) (by omega) q_enMO rfl iX3_owner_X3 (by decide) (by decide +kernel) rfl rfl dX3_owner_29 ?_
    refine q_iload_n C dX3_owner_32 rfl 1 rfl ?_
    refine q_ialdN C (k := 79) (n := 20) ⟨by decide, by decide, by decide⟩ (by omega) (by decide) dX3_owner_33 ?_
    refine q_stk (st' := [.int (V 79 b)]) (congrArg (fun z => Value.int z :: []) (q_up_ne _ _ (by omega))) ?_
    refine hR _ _ _ _ _ _ _ ?_ rfl (Nat.le_of_ble_eq_true rfl) (Nat.le_of_ble_eq_true rfl) dX3_owner_34
    refine ⟨?_, rfl⟩
    simp only [q_n_nI (n := b) (by omega)]
    exact q_mres_0 (q_c1_0 ⟨b, hb, rfl, hb9⟩) rfl rfl
abbrev rX3_wish : Room := { frames := 3, cells := 0, slots := 0, locals := 54 }
theorem iX3_wish_X3 : ∀ w ∈ u_ws RX3 TX3 26, w ∈ wsX3_wish := by decide +kernel
set_option maxHeartbeats 4000000 in
set_option maxRecDepth 100000 in
/-- wish, the reference -/
theorem kX3_wish (l : Launch) (σ : q_E) (V : q_V) (G : q_G) (x y z : Int32) : q_Mi l yX3_wish wsX3_wish rX3_wish σ [.ref (σ.2.1 19), .int x, .int y, .int z] V G (fun r V' G' => q_mres V (q_c2 (q_ok 7 x ∧ q_ok 8 y ∧ q_ok 8 z) (¬ y = z)) (q_w01 (¬ V 81 (q_n x) = -1)) (q_up (q_up (q_up V 19 0 (nI 0)) 81 (q_n x) y) 82 (q_n x) z) r V' ∧ G = G') 0 0 := by
  refine q_Mi_of (cc := cX3_wish) (maxL := 5) (lv := [(0, .ref (σ.2.1 19)), (1, .int x), (2, .int y), (3, .int z)]) (by decide +kernel) rfl (Nat.le_of_ble_eq_true rfl) rfl ?_
  intro p e s m args below meth c Q C hR
  refine q_aload_n C dX3_wish_0 rfl 0 rfl ?_
  refine q_iload_n C dX3_wish_1 rfl 1 rfl ?_
  refine q_callSi C (As := [.int x]) (rest := [.ref (σ.2.1 19)]) (kX3_isPerson l σ V G x) 1 gX3_wish_X3_isPerson rfl rfl rfl (by decide +kernel) ⟨Nat.le_of_ble_eq_true rfl, Nat.le_of_ble_eq_true rfl⟩ dX3_wish_2 rfl (Nat.le_of_ble_eq_true rfl) ⟨Nat.le_of_ble_eq_true rfl, Nat.le_of_ble_eq_true rfl⟩ (fun r_2 V_1 G_2 hq_2 => ?_)
  obtain ⟨hs_2, rfl, rfl⟩ := hq_2
  refine q_if_eq C 22 dX3_wish_5 (by decide) (fun c_5 => ?_) (fun c_5 => ?_)
  · skip
    have b_2 := (q_is_eq hs_2).mp c_5
    refine q_iconst C (nI 1) dX3_wish_22 (by decide) ?_
    refine q_goto C 36 dX3_wish_23 (by decide) ?_
    refine q_put C (k := 19) (fi := 0) tyX3 tyX3_ok nmX3 (by omega) q_enMO rfl iX3_wish_X3 (by decide) (by decide +kernel) rfl rfl (by decide +kernel) (Nat.le_of_ble_eq_true rfl) (q_enMO |>.trans (by simp [q_up])) dX3_wish_36 ?_
    refine q_aload_n C dX3_wish_39 rfl 0 rfl ?_
    refine q_get C (k := 19) (fi := 0) (.int (nI 1)) (by omega) q_enMO rfl iX3_wish_X3 (by decide) (by decide +kernel) rfl (congrArg (fun z => some (Value.int z)) (q_up_self _ _ _ _)) dX3_wish_40 ?_
    refine q_if_le C 48 dX3_wish_43 (by decide) (fun c_43 => absurd c_43 (by decide)) (fun _ => ?_)
    refine q_iconst C (nI 0) dX3_wish_46 (by decide) ?_
    refine hR _ _ _ _ _ _ _ ?_ (by first | rfl | decide) (Nat.le_of_ble_eq_true rfl) (Nat.le_of_ble_eq_true rfl) dX3_wish_47
    refine ⟨?_, rfl⟩
    first | exact q_mres_1 (q_c2_1 (fun q => b_2 q.1)) (by decide) rfl | exact q_mres_1 (q_c2_1 (fun q => b_9 q.2.1)) (by decide) rfl | exact q_mres_1 (q_c2_1 (fun q => b_16 q.2.2)) (by decide) rfl
  · skip
    have b_2 := (q_is_ne hs_2).mp c_5
    refine q_iload_n C dX3_wish_8 rfl 2 rfl ?_
    refine q_callSi C (As := [.int y]) (rest := [.ref (σ.2.1 19)]) (kX3_isColour l σ V G y) 1 gX3_wish_X3_isColour rfl rfl rfl (by decide +kernel) ⟨Nat.le_of_ble_eq_true rfl, Nat.le_of_ble_eq_true rfl⟩ dX3_wish_9 rfl (Nat.le_of_ble_eq_true rfl) ⟨Nat.le_of_ble_eq_true rfl, Nat.le_of_ble_eq_true rfl⟩ (fun r_9 V_3 G_4 hq_9 => ?_)
    obtain ⟨hs_9, rfl, rfl⟩ := hq_9
    refine q_if_eq C 22 dX3_wish_12 (by decide) (fun c_12 => ?_) (fun c_12 => ?_)
    · skip
      have b_9 := (q_is_eq hs_9).mp c_12
      refine q_iconst C (nI 1) dX3_wish_22 (by decide) ?_
      refine q_goto C 36 dX3_wish_23 (by decide) ?_
      refine q_put C (k := 19) (fi := 0) tyX3 tyX3_ok nmX3 (by omega) q_enMO rfl iX3_wish_X3 (by decide) (by decide +kernel) rfl rfl (by decide +kernel) (Nat.le_of_ble_eq_true rfl) (q_enMO |>.trans (by simp [q_up])) dX3_wish_36 ?_
      refine q_aload_n C dX3_wish_39 rfl 0 rfl ?_
      refine q_get C (k := 19) (fi := 0) (.int (nI 1)) (by omega) q_enMO rfl iX3_wish_X3 (by decide) (by decide +kernel) rfl (congrArg (fun z => some (Value.int z)) (q_up_self _ _ _ _)) dX3_wish_40 ?_
      refine q_if_le C 48 dX3_wish_43 (by decide) (fun c_43 => absurd c_43 (by decide)) (fun _ => ?_)
      refine q_iconst C (nI 0) dX3_wish_46 (by decide) ?_
      refine hR _ _ _ _ _ _ _ ?_ (by first | rfl | decide) (Nat.le_of_ble_eq_true rfl) (Nat.le_of_ble_eq_true rfl) dX3_wish_47
      refine ⟨?_, rfl⟩
      first | exact q_mres_1 (q_c2_1 (fun q => b_2 q.1)) (by decide) rfl | exact q_mres_1 (q_c2_1 (fun q => b_9 q.2.1)) (by decide) rfl | exact q_mres_1 (q_c2_1 (fun q => b_16 q.2.2)) (by decide) rfl
    · skip
      have b_9 := (q_is_ne hs_9).mp c_12
      refine q_iload_n C dX3_wish_15 rfl 3 rfl ?_
      refine q_callSi C (As := [.int z]) (rest := [.ref (σ.2.1 19)]) (kX3_isColour l σ V G z) 1 gX3_wish_X3_isColour rfl rfl rfl (by decide +kernel) ⟨Nat.le_of_ble_eq_true rfl, Nat.le_of_ble_eq_true rfl⟩ dX3_wish_16 rfl (Nat.le_of_ble_eq_true rfl) ⟨Nat.le_of_ble_eq_true rfl, Nat.le_of_ble_eq_true rfl⟩ (fun r_16 V_5 G_6 hq_16 => ?_)
      obtain ⟨hs_16, rfl, rfl⟩ := hq_16
      refine q_if_ne C 26 dX3_wish_19 (by decide) (fun c_19 => ?_) (fun c_19 => ?_)
      · skip
        have b_16 := (q_is_ne hs_16).mp c_19
        refine q_iload_n C dX3_wish_26 rfl 2 rfl ?_
        refine q_iload_n C dX3_wish_27 rfl 3 rfl ?_
        refine q_icmp_ne C 35 dX3_wish_28 (by decide) (fun c_28 => ?_) (fun c_28 => ?_)
        · skip
          obtain ⟨a, ha, rfl⟩ := b_2
          refine q_iconst C (nI 0) dX3_wish_35 (by decide) ?_
          refine q_put C (k := 19) (fi := 0) tyX3 tyX3_ok nmX3 (by omega) q_enMO rfl iX3_wish_X3 (by decide) (by decide +kernel) rfl rfl (by decide +kernel) (Nat.le_of_ble_eq_true rfl) (q_enMO |>.trans (by simp [q_up])) dX3_wish_36 ?_
          refine q_aload_n C dX3_wish_39 rfl 0 rfl ?_
          refine q_get C (k := 19) (fi := 0) (.int (nI 0)) (by omega) q_enMO rfl iX3_wish_X3 (by decide) (by decide +kernel) rfl (congrArg (fun z => some (Value.int z)) (q_up_self _ _ _ _)) dX3_wish_40 ?_
          refine q_if_le C 48 dX3_wish_43 (by decide) (fun _ => ?_) (fun c_43 => absurd c_43 (by decide))
          refine q_aload_n C dX3_wish_48 rfl 0 rfl ?_
          refine q_get C (k := 19) (fi := 16) (.ref (σ.2.1 81)) (by omega) q_enMO rfl iX3_wish_X3 (by decide) (by decide +kernel) rfl rfl dX3_wish_49 ?_
          refine q_iload_n C dX3_wish_52 rfl 1 rfl ?_
          refine q_ialdN C (k := 81) (n := 7) ⟨by decide, by decide, by decide⟩ (by omega) (by decide) dX3_wish_53 ?_
          refine q_stk (st' := [.int (V 81 a)]) (congrArg (fun z => Value.int z :: []) (q_up_ne _ _ (by omega))) ?_
          refine q_iconst C ((-1)) dX3_wish_54 (by decide) ?_
          refine q_icmp_eq C 62 dX3_wish_55 (by decide) (fun c_55 => ?_) (fun c_55 => ?_)
          · skip
            refine q_iconst C (nI 0) dX3_wish_62 (by decide) ?_
            refine q_istore C [(4, .int (nI 0)), (0, .ref (σ.2.1 19)), (1, .int (nI a)), (2, .int y), (3, .int z)] dX3_wish_63 (by decide) rfl ?_
            refine q_aload_n C dX3_wish_65 rfl 1 rfl ?_
            refine q_get C (k := 19) (fi := 16) (.ref (σ.2.1 81)) (by omega) q_enMO rfl iX3_wish_X3 (by decide) (by decide +kernel) rfl rfl dX3_wish_66 ?_
            refine q_iload_n C dX3_wish_69 rfl 2 rfl ?_
            refine q_iload_n C dX3_wish_70 rfl 3 rfl ?_
            refine q_iastN C (k := 81) (n := 7) ⟨by decide, by decide, by decide⟩ (by omega) (by decide) dX3_wish_71 ?_
            refine q_aload_n C dX3_wish_72 rfl 1 rfl ?_
            refine q_get C (k := 19) (fi := 17) (.ref (σ.2.1 82)) (by omega) q_enMO rfl iX3_wish_X3 (by decide) (by decide +kernel) rfl rfl dX3_wish_73 ?_
            refine q_iload_n C dX3_wish_76 rfl 2 rfl ?_
            refine q_iload_n C dX3_wish_77 rfl 4 rfl ?_
            refine q_iastN C (k := 82) (n := 7) ⟨by decide, by decide, by decide⟩ (by omega) (by decide) dX3_wish_78 ?_
            refine q_iload C dX3_wish_79 0 rfl ?_
            refine hR _ _ _ _ _ _ _ ?_ (by first | rfl | decide) (Nat.le_of_ble_eq_true rfl) (Nat.le_of_ble_eq_true rfl) dX3_wish_81
            refine ⟨?_, rfl⟩
            simp only [q_n_nI (n := a) (by omega)]
            exact q_mres_0 (q_c2_0 ⟨q_ok_nI ha, b_9, b_16⟩ c_28) (q_w01_n (fun q => q c_55)) rfl
          · skip
            refine q_iconst C (nI 1) dX3_wish_58 (by decide) ?_
            refine q_goto C 63 dX3_wish_59 (by decide) ?_
            refine q_istore C [(4, .int (nI 1)), (0, .ref (σ.2.1 19)), (1, .int (nI a)), (2, .int y), (3, .int z)] dX3_wish_63 (by decide) rfl ?_
            refine q_aload_n C dX3_wish_65 rfl 1 rfl ?_
            refine q_get C (k := 19) (fi := 16) (.ref (σ.2.1 81)) (by omega) q_enMO rfl iX3_wish_X3 (by decide) (by decide +kernel) rfl rfl dX3_wish_66 ?_
            refine q_iload_n C dX3_wish_69 rfl 2 rfl ?_
            refine q_iload_n C dX3_wish_70 rfl 3 rfl ?_
            refine q_iastN C (k := 81) (n := 7) ⟨by decide, by decide, by decide⟩ (by omega) (by decide) dX3_wish_71 ?_
            refine q_aload_n C dX3_wish_72 rfl 1 rfl ?_
            refine q_get C (k := 19) (fi := 17) (.ref (σ.2.1 82)) (by omega) q_enMO rfl iX3_wish_X3 (by decide) (by decide +kernel) rfl rfl dX3_wish_73 ?_
            refine q_iload_n C dX3_wish_76 rfl 2 rfl ?_
            refine q_iload_n C dX3_wish_77 rfl 4 rfl ?_
            refine q_iastN C (k := 82) (n := 7) ⟨by decide, by decide, by decide⟩ (by omega) (by decide) dX3_wish_78 ?_
            refine q_iload C dX3_wish_79 0 rfl ?_
            refine hR _ _ _ _ _ _ _ ?_ (by first | rfl | decide) (Nat.le_of_ble_eq_true rfl) (Nat.le_of_ble_eq_true rfl) dX3_wish_81
            refine ⟨?_, rfl⟩
            simp only [q_n_nI (n := a) (by omega)]
            exact q_mres_0 (q_c2_0 ⟨q_ok_nI ha, b_9, b_16⟩ c_28) (q_w01_y c_55) rfl
        · skip
          refine q_iconst C (nI 2) dX3_wish_31 (by decide) ?_
          refine q_goto C 36 dX3_wish_32 (by decide) ?_
          refine q_put C (k := 19) (fi := 0) tyX3 tyX3_ok nmX3 (by omega) q_enMO rfl iX3_wish_X3 (by decide) (by decide +kernel) rfl rfl (by decide +kernel) (Nat.le_of_ble_eq_true rfl) (q_enMO |>.trans (by simp [q_up])) dX3_wish_36 ?_
          refine q_aload_n C dX3_wish_39 rfl 0 rfl ?_
          refine q_get C (k := 19) (fi := 0) (.int (nI 2)) (by omega) q_enMO rfl iX3_wish_X3 (by decide) (by decide +kernel) rfl (congrArg (fun z => some (Value.int z)) (q_up_self _ _ _ _)) dX3_wish_40 ?_
          refine q_if_le C 48 dX3_wish_43 (by decide) (fun c_43 => absurd c_43 (by decide)) (fun _ => ?_)
          refine q_iconst C (nI 0) dX3_wish_46 (by decide) ?_
          refine hR _ _ _ _ _ _ _ ?_ (by first | rfl | decide) (Nat.le_of_ble_eq_true rfl) (Nat.le_of_ble_eq_true rfl) dX3_wish_47
          refine ⟨?_, rfl⟩
          exact q_mres_1 (q_c2_2 ⟨b_2, b_9, b_16⟩ (fun q => q c_28)) (by decide) rfl
      · skip
        have b_16 := (q_is_eq hs_16).mp c_19
        refine q_iconst C (nI 1) dX3_wish_22 (by decide) ?_
        refine q_goto C 36 dX3_wish_23 (by decide) ?_
        refine q_put C (k := 19) (fi := 0) tyX3 tyX3_ok nmX3 (by omega) q_enMO rfl iX3_wish_X3 (by decide) (by decide +kernel) rfl rfl (by decide +kernel) (Nat.le_of_ble_eq_true rfl) (q_enMO |>.trans (by simp [q_up])) dX3_wish_36 ?_
        refine q_aload_n C dX3_wish_39 rfl 0 rfl ?_
        refine q_get C (k := 19) (fi := 0) (.int (nI 1)) (by omega) q_enMO rfl iX3_wish_X3 (by decide) (by decide +kernel) rfl (congrArg (fun z => some (Value.int z)) (q_up_self _ _ _ _)) dX3_wish_40 ?_
        refine q_if_le C 48 dX3_wish_43 (by decide) (fun c_43 => absurd c_43 (by decide)) (fun _ => ?_)
        refine q_iconst C (nI 0) dX3_wish_46 (by decide) ?_
        refine hR _ _ _ _ _ _ _ ?_ (by first | rfl | decide) (Nat.le_of_ble_eq_true rfl) (Nat.le_of_ble_eq_true rfl) dX3_wish_47
        refine ⟨?_, rfl⟩
        first | exact q_mres_1 (q_c2_1 (fun q => b_2 q.1)) (by decide) rfl | exact q_mres_1 (q_c2_1 (fun q => b_9 q.2.1)) (by decide) rfl | exact q_mres_1 (q_c2_1 (fun q => b_16 q.2.2)) (by decide) rfl
abbrev rX3_unwish : Room := { frames := 3, cells := 0, slots := 0, locals := 54 }
theorem iX3_unwish_X3 : ∀ w ∈ u_ws RX3 TX3 26, w ∈ wsX3_unwish := by decide +kernel
set_option maxHeartbeats 4000000 in
set_option maxRecDepth 100000 in
/-- unwish, the reference -/
theorem kX3_unwish (l : Launch) (σ : q_E) (V : q_V) (G : q_G) (x : Int32) : q_Mi l yX3_unwish wsX3_unwish rX3_unwish σ [.ref (σ.2.1 19), .int x] V G (fun r V' G' => q_mres V (q_c1 (q_ok 7 x)) (q_w01 (¬ V 81 (q_n x) = -1)) (q_up (q_up V 19 0 (nI 0)) 81 (q_n x) (-1)) r V' ∧ G = G') 0 0 := by
  refine q_Mi_of (cc := cX3_unwish) (maxL := 3) (lv := [(0, .ref (σ.2.1 19)), (1, .int x)]) (by decide +kernel) rfl (Nat.le_of_ble_eq_true rfl) rfl ?_
  intro p e s m args below meth c Q C hR
  refine q_aload_n C dX3_unwish_0 rfl 0 rfl ?_
  refine q_iload_n C dX3_unwish_1 rfl 1 rfl ?_
  refine q_callSi C (As := [.int x]) (rest := [.ref (σ.2.1 19)]) (kX3_isPerson l σ V G x) 1 gX3_unwish_X3_isPerson rfl rfl rfl (by decide +kernel) ⟨Nat.le_of_ble_eq_true rfl, Nat.le_of_ble_eq_true rfl⟩ dX3_unwish_2 rfl (Nat.le_of_ble_eq_true rfl) ⟨Nat.le_of_ble_eq_true rfl, Nat.le_of_ble_eq_true rfl⟩ (fun r_2 V_1 G_2 hq_2 => ?_)
  obtain ⟨hs_2, rfl, rfl⟩ := hq_2
  refine q_if_eq C 12 dX3_unwish_5 (by decide) (fun c_5 => ?_) (fun c_5 => ?_)
  · skip
    have b_2 := (q_is_eq hs_2).mp c_5
    refine q_iconst C (nI 1) dX3_unwish_12 (by decide) ?_
    refine q_put C (k := 19) (fi := 0) tyX3 tyX3_ok nmX3 (by omega) q_enMO rfl iX3_unwish_X3 (by decide) (by decide +kernel) rfl rfl (by decide +kernel) (Nat.le_of_ble_eq_true rfl) (q_enMO |>.trans (by simp [q_up])) dX3_unwish_13 ?_
    refine q_aload_n C dX3_unwish_16 rfl 0 rfl ?_
    refine q_get C (k := 19) (fi := 0) (.int (nI 1)) (by omega) q_enMO rfl iX3_unwish_X3 (by decide) (by decide +kernel) rfl (congrArg (fun z => some (Value.int z)) (q_up_self _ _ _ _)) dX3_unwish_17 ?_
    refine q_if_ne C 37 dX3_unwish_20 (by decide) (fun _ => ?_) (fun c_20 => absurd c_20 (by decide))
    refine q_iconst C (nI 0) dX3_unwish_37 (by decide) ?_
    refine q_istore_n C [(2, .int (nI 0)), (0, .ref (σ.2.1 19)), (1, .int x)] dX3_unwish_38 rfl (by decide) rfl ?_
    refine q_iload_n C dX3_unwish_39 rfl 0 rfl ?_
    refine q_if_eq C 50 dX3_unwish_40 (by decide) (fun _ => ?_) (fun c_40 => absurd c_40 (by decide))
    refine q_iload_n C dX3_unwish_50 rfl 0 rfl ?_
    refine hR _ _ _ _ _ _ _ ?_ (by first | rfl | decide) (Nat.le_of_ble_eq_true rfl) (Nat.le_of_ble_eq_true rfl) dX3_unwish_51
    first | exact ⟨q_mres_1 (q_c1_1 b_2) (by decide) rfl, rfl⟩ | (refine ⟨?_, rfl⟩; rw [q_n_nI (n := a) (by omega)]; first | exact q_mres_0 (q_c1_0 (q_ok_nI ha)) (q_w01_y c_30) rfl | exact q_mres_0 (q_c1_0 (q_ok_nI ha)) (q_w01_n (fun q => q c_30)) (q_up_same c_30))
  · skip
    have b_2 := (q_is_ne hs_2).mp c_5
    obtain ⟨a, ha, rfl⟩ := b_2
    refine q_iconst C (nI 0) dX3_unwish_8 (by decide) ?_
    refine q_goto C 13 dX3_unwish_9 (by decide) ?_
    refine q_put C (k := 19) (fi := 0) tyX3 tyX3_ok nmX3 (by omega) q_enMO rfl iX3_unwish_X3 (by decide) (by decide +kernel) rfl rfl (by decide +kernel) (Nat.le_of_ble_eq_true rfl) (q_enMO |>.trans (by simp [q_up])) dX3_unwish_13 ?_
    refine q_aload_n C dX3_unwish_16 rfl 0 rfl ?_
    refine q_get C (k := 19) (fi := 0) (.int (nI 0)) (by omega) q_enMO rfl iX3_unwish_X3 (by decide) (by decide +kernel) rfl (congrArg (fun z => some (Value.int z)) (q_up_self _ _ _ _)) dX3_unwish_17 ?_
    refine q_if_ne C 37 dX3_unwish_20 (by decide) (fun c_20 => absurd c_20 (by decide)) (fun _ => ?_)
    refine q_aload_n C dX3_unwish_23 rfl 0 rfl ?_
    refine q_get C (k := 19) (fi := 16) (.ref (σ.2.1 81)) (by omega) q_enMO rfl iX3_unwish_X3 (by decide) (by decide +kernel) rfl rfl dX3_unwish_24 ?_
    refine q_iload_n C dX3_unwish_27 rfl 1 rfl ?_
    refine q_ialdN C (k := 81) (n := 7) ⟨by decide, by decide, by decide⟩ (by omega) (by decide) dX3_unwish_28 ?_
    refine q_stk (st' := [.int (V 81 a)]) (congrArg (fun z => Value.int z :: []) (q_up_ne _ _ (by omega))) ?_
    refine q_iconst C ((-1)) dX3_unwish_29 (by decide) ?_
    refine q_icmp_eq C 37 dX3_unwish_30 (by decide) (fun c_30 => ?_) (fun c_30 => ?_)
    · skip
      refine q_iconst C (nI 0) dX3_unwish_37 (by decide) ?_
      refine q_istore_n C [(2, .int (nI 0)), (0, .ref (σ.2.1 19)), (1, .int (nI a))] dX3_unwish_38 rfl (by decide) rfl ?_
      refine q_iload_n C dX3_unwish_39 rfl 0 rfl ?_
      refine q_if_eq C 50 dX3_unwish_40 (by decide) (fun _ => ?_) (fun c_40 => absurd c_40 (by decide))
      refine q_iload_n C dX3_unwish_50 rfl 0 rfl ?_
      refine hR _ _ _ _ _ _ _ ?_ (by first | rfl | decide) (Nat.le_of_ble_eq_true rfl) (Nat.le_of_ble_eq_true rfl) dX3_unwish_51
      first | exact ⟨q_mres_1 (q_c1_1 b_2) (by decide) rfl, rfl⟩ | (refine ⟨?_, rfl⟩; rw [q_n_nI (n := a) (by omega)]; first | exact q_mres_0 (q_c1_0 (q_ok_nI ha)) (q_w01_y c_30) rfl | exact q_mres_0 (q_c1_0 (q_ok_nI ha)) (q_w01_n (fun q => q c_30)) (q_up_same c_30))
    · skip
      refine q_iconst C (nI 1) dX3_unwish_33 (by decide) ?_
      refine q_goto C 38 dX3_unwish_34 (by decide) ?_
      refine q_istore_n C [(2, .int (nI 1)), (0, .ref (σ.2.1 19)), (1, .int (nI a))] dX3_unwish_38 rfl (by decide) rfl ?_
      refine q_iload_n C dX3_unwish_39 rfl 0 rfl ?_
      refine q_if_eq C 50 dX3_unwish_40 (by decide) (fun c_40 => absurd c_40 (by decide)) (fun _ => ?_)
      refine q_aload_n C dX3_unwish_43 rfl 1 rfl ?_
      refine q_get C (k := 19) (fi := 16) (.ref (σ.2.1 81)) (by omega) q_enMO rfl iX3_unwish_X3 (by decide) (by decide +kernel) rfl rfl dX3_unwish_44 ?_
      refine q_iload_n C dX3_unwish_47 rfl 2 rfl ?_
      refine q_iconst C ((-1)) dX3_unwish_48 (by decide) ?_
      refine q_iastN C (k := 81) (n := 7) ⟨by decide, by decide, by decide⟩ (by omega) (by decide) dX3_unwish_49 ?_
      refine q_iload_n C dX3_unwish_50 rfl 0 rfl ?_
      refine hR _ _ _ _ _ _ _ ?_ (by first | rfl | decide) (Nat.le_of_ble_eq_true rfl) (Nat.le_of_ble_eq_true rfl) dX3_unwish_51
      first | exact ⟨q_mres_1 (q_c1_1 b_2) (by decide) rfl, rfl⟩ | (refine ⟨?_, rfl⟩; rw [q_n_nI (n := a) (by omega)]; first | exact q_mres_0 (q_c1_0 (q_ok_nI ha)) (q_w01_y c_30) rfl | exact q_mres_0 (q_c1_0 (q_ok_nI ha)) (q_w01_n (fun q => q c_30)) (q_up_same c_30))
