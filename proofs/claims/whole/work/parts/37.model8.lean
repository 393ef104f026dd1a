abbrev rX3_chain : Room := { frames := 4, cells := 0, slots := 0, locals := 80 }
theorem iX3_chain_X3 : ∀ w ∈ u_ws RX3 TX3 26, w ∈ wsX3_chain := by decide +kernel
set_option maxHeartbeats 4000000 in
set_option maxRecDepth 100000 in
/-- chain, the reference -/
theorem kX3_chain (l : Launch) (σ : q_E) (V : q_V) (G : q_G) (hw2 : ∀ a, a < 7 → V 81 a = -1 ∨ ((∃ c, c < 8 ∧ V 81 a = nI c) ∧ ∃ d, d < 8 ∧ V 82 a = nI d)) : q_Mi l yX3_chain wsX3_chain rX3_chain σ [.ref (σ.2.1 19)] V G (fun r V' G' => nI (q_best (q_mrd V) (q_mgt V)).length = r ∧ q_off (q_up V 19 0 (nI 0)) V' ∧ G = G') 0 0 := by
  refine q_Mi_of (cc := cX3_chain) (maxL := 1) (lv := [(0, .ref (σ.2.1 19))]) (by decide +kernel) rfl (Nat.le_of_ble_eq_true rfl) rfl ?_
  intro p e s m args below meth c Q C hR
  have hw : ∀ a, a < 7 → V 81 a = -1 ∨ ∃ c, c < 8 ∧ V 81 a = nI c := fun a ha => (hw2 a ha).imp id (fun z => z.1)
  refine q_aload_n C dX3_chain_0 rfl 0 rfl ?_
  refine q_iconst C (nI 0) dX3_chain_1 (by decide) ?_
  refine q_put C (k := 19) (fi := 0) tyX3 tyX3_ok nmX3 (by omega) q_enMO rfl iX3_chain_X3 (by decide) (by decide +kernel) rfl rfl (by decide +kernel) (Nat.le_of_ble_eq_true rfl) (q_enMO |>.trans (by simp [q_up])) dX3_chain_2 ?_
  refine q_aload_n C dX3_chain_5 rfl 0 rfl ?_
  refine q_callVi C (As := []) (rest := []) (k := 19) (by omega) q_enMO rfl rfl (kX3_finds l σ (q_up V 19 0 (nI 0)) G hw) 0 gX3_chain_X3_finds rfl rfl rfl (by decide +kernel) ⟨Nat.le_of_ble_eq_true rfl, Nat.le_of_ble_eq_true rfl⟩ dX3_chain_6 rfl (Nat.le_of_ble_eq_true rfl) ⟨Nat.le_of_ble_eq_true rfl, Nat.le_of_ble_eq_true rfl⟩ (fun r_6 V_1 G_2 hq_6 => ?_)
  obtain ⟨rfl, hoff, hc, rfl⟩ := hq_6
  obtain ⟨B, hB⟩ : ∃ B, B = (q_best (q_mrd V) (q_mgt V)) := ⟨_, rfl⟩
  have hc2 : ∀ i, i < B.length → V_1 83 i = nI (B.getD i 0) := by rw [hB]; exact hc
  have hbl : B.length ≤ 7 := by rw [hB]; exact q_best_len _ _
  have hin : ∀ i, i < B.length → B.getD i 0 < 7 ∧ q_mrd V (B.getD i 0) := by rw [hB]; exact fun i hi => q_best_in _ _ hi
  refine hR _ _ _ _ _ _ _ ?_ rfl (Nat.le_of_ble_eq_true rfl) (Nat.le_of_ble_eq_true rfl) dX3_chain_9
  exact ⟨rfl, hoff, rfl⟩
abbrev rX3_chainByOrders : Room := { frames := 4, cells := 0, slots := 0, locals := 80 }
theorem iX3_chainByOrders_X3 : ∀ w ∈ u_ws RX3 TX3 26, w ∈ wsX3_chainByOrders := by decide +kernel
set_option maxHeartbeats 4000000 in
set_option maxRecDepth 100000 in
/-- chainByOrders, the reference -/
theorem kX3_chainByOrders (l : Launch) (σ : q_E) (V : q_V) (G : q_G) (hw2 : ∀ a, a < 7 → V 81 a = -1 ∨ ((∃ c, c < 8 ∧ V 81 a = nI c) ∧ ∃ d, d < 8 ∧ V 82 a = nI d)) : q_Mi l yX3_chainByOrders wsX3_chainByOrders rX3_chainByOrders σ [.ref (σ.2.1 19)] V G (fun r V' G' => nI (q_best (q_mrd V) (q_mgt V)).length = r ∧ q_off (q_up V 19 0 (nI 0)) V' ∧ G = G') 0 0 := by
  refine q_Mi_of (cc := cX3_chainByOrders) (maxL := 1) (lv := [(0, .ref (σ.2.1 19))]) (by decide +kernel) rfl (Nat.le_of_ble_eq_true rfl) rfl ?_
  intro p e s m args below meth c Q C hR
  have hw : ∀ a, a < 7 → V 81 a = -1 ∨ ∃ c, c < 8 ∧ V 81 a = nI c := fun a ha => (hw2 a ha).imp id (fun z => z.1)
  refine q_aload_n C dX3_chainByOrders_0 rfl 0 rfl ?_
  refine q_iconst C (nI 0) dX3_chainByOrders_1 (by decide) ?_
  refine q_put C (k := 19) (fi := 0) tyX3 tyX3_ok nmX3 (by omega) q_enMO rfl iX3_chainByOrders_X3 (by decide) (by decide +kernel) rfl rfl (by decide +kernel) (Nat.le_of_ble_eq_true rfl) (q_enMO |>.trans (by simp [q_up])) dX3_chainByOrders_2 ?_
  refine q_aload_n C dX3_chainByOrders_5 rfl 0 rfl ?_
  refine q_callVi C (As := []) (rest := []) (k := 19) (by omega) q_enMO rfl rfl (kX3_finds l σ (q_up V 19 0 (nI 0)) G hw) 0 gX3_chainByOrders_X3_finds rfl rfl rfl (by decide +kernel) ⟨Nat.le_of_ble_eq_true rfl, Nat.le_of_ble_eq_true rfl⟩ dX3_chainByOrders_6 rfl (Nat.le_of_ble_eq_true rfl) ⟨Nat.le_of_ble_eq_true rfl, Nat.le_of_ble_eq_true rfl⟩ (fun r_6 V_1 G_2 hq_6 => ?_)
  obtain ⟨rfl, hoff, hc, rfl⟩ := hq_6
  obtain ⟨B, hB⟩ : ∃ B, B = (q_best (q_mrd V) (q_mgt V)) := ⟨_, rfl⟩
  have hc2 : ∀ i, i < B.length → V_1 83 i = nI (B.getD i 0) := by rw [hB]; exact hc
  have hbl : B.length ≤ 7 := by rw [hB]; exact q_best_len _ _
  have hin : ∀ i, i < B.length → B.getD i 0 < 7 ∧ q_mrd V (B.getD i 0) := by rw [hB]; exact fun i hi => q_best_in _ _ hi
  refine hR _ _ _ _ _ _ _ ?_ rfl (Nat.le_of_ble_eq_true rfl) (Nat.le_of_ble_eq_true rfl) dX3_chainByOrders_9
  exact ⟨rfl, hoff, rfl⟩
abbrev rX3_chainAt : Room := { frames := 4, cells := 0, slots := 0, locals := 80 }
theorem iX3_chainAt_X3 : ∀ w ∈ u_ws RX3 TX3 26, w ∈ wsX3_chainAt := by decide +kernel
set_option maxHeartbeats 4000000 in
set_option maxRecDepth 100000 in
/-- chainAt, the reference -/
theorem kX3_chainAt (l : Launch) (σ : q_E) (V : q_V) (G : q_G) (hw2 : ∀ a, a < 7 → V 81 a = -1 ∨ ((∃ c, c < 8 ∧ V 81 a = nI c) ∧ ∃ d, d < 8 ∧ V 82 a = nI d)) (x : Int32) : q_Mi l yX3_chainAt wsX3_chainAt rX3_chainAt σ [.ref (σ.2.1 19), .int x] V G (fun r V' G' => ((q_c1 (q_ok (q_best (q_mrd V) (q_mgt V)).length x) = 0 ∧ nI ((q_best (q_mrd V) (q_mgt V)).getD (q_n x) 0) = r) ∨ q_c1 (q_ok (q_best (q_mrd V) (q_mgt V)).length x) ≠ 0) ∧ (∃ U, q_off V U ∧ q_up U 19 0 (nI (q_c1 (q_ok (q_best (q_mrd V) (q_mgt V)).length x))) = V') ∧ G = G') 0 0 := by
  refine q_Mi_of (cc := cX3_chainAt) (maxL := 2) (lv := [(0, .ref (σ.2.1 19)), (1, .int x)]) (by decide +kernel) rfl (Nat.le_of_ble_eq_true rfl) rfl ?_
  intro p e s m args below meth c Q C hR
  have hw : ∀ a, a < 7 → V 81 a = -1 ∨ ∃ c, c < 8 ∧ V 81 a = nI c := fun a ha => (hw2 a ha).imp id (fun z => z.1)
  refine q_aload_n C dX3_chainAt_0 rfl 0 rfl ?_
  refine q_iload_n C dX3_chainAt_1 rfl 1 rfl ?_
  refine q_iconst C (nI 0) dX3_chainAt_2 (by decide) ?_
  refine q_aload_n C dX3_chainAt_3 rfl 0 rfl ?_
  refine q_callVi C (As := []) (rest := [.int (nI 0), .int x, .ref (σ.2.1 19)]) (k := 19) (by omega) q_enMO rfl rfl (kX3_finds l σ V G hw) 0 gX3_chainAt_X3_finds rfl rfl rfl (by decide +kernel) ⟨Nat.le_of_ble_eq_true rfl, Nat.le_of_ble_eq_true rfl⟩ dX3_chainAt_4 rfl (Nat.le_of_ble_eq_true rfl) ⟨Nat.le_of_ble_eq_true rfl, Nat.le_of_ble_eq_true rfl⟩ (fun r_4 V_1 G_2 hq_4 => ?_)
  obtain ⟨rfl, hoff, hc, rfl⟩ := hq_4
  obtain ⟨B, hB⟩ : ∃ B, B = (q_best (q_mrd V) (q_mgt V)) := ⟨_, rfl⟩
  have hc2 : ∀ i, i < B.length → V_1 83 i = nI (B.getD i 0) := by rw [hB]; exact hc
  have hbl : B.length ≤ 7 := by rw [hB]; exact q_best_len _ _
  have hin : ∀ i, i < B.length → B.getD i 0 < 7 ∧ q_mrd V (B.getD i 0) := by rw [hB]; exact fun i hi => q_best_in _ _ hi
  refine q_stk (st' := [.int (nI B.length), .int (nI 0), .int x, .ref (σ.2.1 19)]) (by rw [hB] <;> rfl) ?_
  refine q_iconst C (nI 1) dX3_chainAt_7 (by decide) ?_
  refine q_isub C dX3_chainAt_8 ?_
  refine q_callSi C (As := [.int x, .int (nI 0), .int (nI B.length - nI 1)]) (rest := [.ref (σ.2.1 19)]) (kX3_isIn l σ V_1 G x (nI 0) (nI B.length - nI 1)) 3 gX3_chainAt_X3_isIn rfl rfl rfl (by decide +kernel) ⟨Nat.le_of_ble_eq_true rfl, Nat.le_of_ble_eq_true rfl⟩ dX3_chainAt_9 rfl (Nat.le_of_ble_eq_true rfl) ⟨Nat.le_of_ble_eq_true rfl, Nat.le_of_ble_eq_true rfl⟩ (fun r_9 V_3 G_4 hq_9 => ?_)
  obtain ⟨hs_9, rfl, rfl⟩ := hq_9
  refine q_if_eq C 19 dX3_chainAt_12 (by decide) (fun c_12 => ?_) (fun c_12 => ?_)
  · skip
    have b_9 := (q_is_eq hs_9).mp c_12
    refine q_iconst C (nI 1) dX3_chainAt_19 (by decide) ?_
    refine q_put C (k := 19) (fi := 0) tyX3 tyX3_ok nmX3 (by omega) q_enMO rfl iX3_chainAt_X3 (by decide) (by decide +kernel) rfl rfl (by decide +kernel) (Nat.le_of_ble_eq_true rfl) (q_enMO |>.trans (by simp [q_up])) dX3_chainAt_20 ?_
    refine q_aload_n C dX3_chainAt_23 rfl 0 rfl ?_
    refine q_get C (k := 19) (fi := 0) (.int (nI 1)) (by omega) q_enMO rfl iX3_chainAt_X3 (by decide) (by decide +kernel) rfl (congrArg (fun z => some (Value.int z)) (q_up_self _ _ _ _)) dX3_chainAt_24 ?_
    refine q_if_le C 34 dX3_chainAt_27 (by decide) (fun c_27 => absurd c_27 (by decide)) (fun _ => ?_)
    refine q_iconst C (nI 0) dX3_chainAt_30 (by decide) ?_
    refine q_goto C 40 dX3_chainAt_31 (by decide) ?_
    refine hR _ _ _ _ _ _ _ ?_ rfl (Nat.le_of_ble_eq_true rfl) (Nat.le_of_ble_eq_true rfl) dX3_chainAt_40
    rw [← hB]
    rw [q_c1_1 (fun q => b_9 ((q_in_ok2 (by omega)).mpr q))]
    exact ⟨Or.inr (by decide), ⟨_, hoff, rfl⟩, rfl⟩
  · skip
    have b_9 := (q_is_ne hs_9).mp c_12
    obtain ⟨a, ha, rfl⟩ := (q_in_ok2 (by omega)).mp b_9
    refine q_iconst C (nI 0) dX3_chainAt_15 (by decide) ?_
    refine q_goto C 20 dX3_chainAt_16 (by decide) ?_
    refine q_put C (k := 19) (fi := 0) tyX3 tyX3_ok nmX3 (by omega) q_enMO rfl iX3_chainAt_X3 (by decide) (by decide +kernel) rfl rfl (by decide +kernel) (Nat.le_of_ble_eq_true rfl) (q_enMO |>.trans (by simp [q_up])) dX3_chainAt_20 ?_
    refine q_aload_n C dX3_chainAt_23 rfl 0 rfl ?_
    refine q_get C (k := 19) (fi := 0) (.int (nI 0)) (by omega) q_enMO rfl iX3_chainAt_X3 (by decide) (by decide +kernel) rfl (congrArg (fun z => some (Value.int z)) (q_up_self _ _ _ _)) dX3_chainAt_24 ?_
    refine q_if_le C 34 dX3_chainAt_27 (by decide) (fun _ => ?_) (fun c_27 => absurd c_27 (by decide))
    refine q_aload_n C dX3_chainAt_34 rfl 0 rfl ?_
    refine q_get C (k := 19) (fi := 18) (.ref (σ.2.1 83)) (by omega) q_enMO rfl iX3_chainAt_X3 (by decide) (by decide +kernel) rfl rfl dX3_chainAt_35 ?_
    refine q_iload_n C dX3_chainAt_38 rfl 1 rfl ?_
    refine q_ialdN C (k := 83) (n := 7) ⟨by decide, by decide, by decide⟩ (by omega) (by decide) dX3_chainAt_39 ?_
    refine q_stk (st' := [.int (V_1 83 a)]) (congrArg (fun z => Value.int z :: []) (q_up_ne _ _ (by omega))) ?_
    refine q_stk (st' := [.int (nI ((B.getD a 0)))]) (congrArg (fun z => Value.int z :: []) (hc2 a ha)) ?_
    refine hR _ _ _ _ _ _ _ ?_ rfl (Nat.le_of_ble_eq_true rfl) (Nat.le_of_ble_eq_true rfl) dX3_chainAt_40
    rw [← hB]
    rw [q_c1_0 (q_ok_nI ha), q_n_nI (by omega)]
    exact ⟨Or.inl ⟨rfl, rfl⟩, ⟨_, hoff, rfl⟩, rfl⟩
abbrev rX3_fair : Room := { frames := 4, cells := 0, slots := 0, locals := 80 }
theorem iX3_fair_X3 : ∀ w ∈ u_ws RX3 TX3 26, w ∈ wsX3_fair := by decide +kernel
set_option maxHeartbeats 4000000 in
set_option maxRecDepth 100000 in
/-- fair, the reference -/
theorem kX3_fair (l : Launch) (σ : q_E) (V : q_V) (G : q_G) (hw2 : ∀ a, a < 7 → V 81 a = -1 ∨ ((∃ c, c < 8 ∧ V 81 a = nI c) ∧ ∃ d, d < 8 ∧ V 82 a = nI d)) : q_Mi l yX3_fair wsX3_fair rX3_fair σ [.ref (σ.2.1 19)] V G (fun r V' G' => nI (q_best (q_mrd V) (q_mgt V)).length = r ∧ (∃ U, q_off (q_up V 19 0 (nI 0)) U ∧ q_fair U (q_best (q_mrd V) (q_mgt V)) (q_best (q_mrd V) (q_mgt V)).length = V') ∧ G = G') 0 0 := by
  refine q_Mi_of (cc := cX3_fair) (maxL := 4) (lv := [(0, .ref (σ.2.1 19))]) (by decide +kernel) rfl (Nat.le_of_ble_eq_true rfl) rfl ?_
  intro p e s m args below meth c Q C hR
  have hw : ∀ a, a < 7 → V 81 a = -1 ∨ ∃ c, c < 8 ∧ V 81 a = nI c := fun a ha => (hw2 a ha).imp id (fun z => z.1)
  refine q_aload_n C dX3_fair_0 rfl 0 rfl ?_
  refine q_iconst C (nI 0) dX3_fair_1 (by decide) ?_
  refine q_put C (k := 19) (fi := 0) tyX3 tyX3_ok nmX3 (by omega) q_enMO rfl iX3_fair_X3 (by decide) (by decide +kernel) rfl rfl (by decide +kernel) (Nat.le_of_ble_eq_true rfl) (q_enMO |>.trans (by simp [q_up])) dX3_fair_2 ?_
  refine q_aload_n C dX3_fair_5 rfl 0 rfl ?_
  refine q_callVi C (As := []) (rest := []) (k := 19) (by omega) q_enMO rfl rfl (kX3_finds l σ (q_up V 19 0 (nI 0)) G hw) 0 gX3_fair_X3_finds rfl rfl rfl (by decide +kernel) ⟨Nat.le_of_ble_eq_true rfl, Nat.le_of_ble_eq_true rfl⟩ dX3_fair_6 rfl (Nat.le_of_ble_eq_true rfl) ⟨Nat.le_of_ble_eq_true rfl, Nat.le_of_ble_eq_true rfl⟩ (fun r_6 V_1 G_2 hq_6 => ?_)
  obtain ⟨rfl, hoff, hc, rfl⟩ := hq_6
  obtain ⟨B, hB⟩ : ∃ B, B = (q_best (q_mrd V) (q_mgt V)) := ⟨_, rfl⟩
  have hc2 : ∀ i, i < B.length → V_1 83 i = nI (B.getD i 0) := by rw [hB]; exact hc
  have hbl : B.length ≤ 7 := by rw [hB]; exact q_best_len _ _
  have hin : ∀ i, i < B.length → B.getD i 0 < 7 ∧ q_mrd V (B.getD i 0) := by rw [hB]; exact fun i hi => q_best_in _ _ hi
  refine q_stk (st' := [.int (nI B.length)]) (by rw [hB] <;> rfl) ?_
  refine q_istore_n C [(1, .int (nI B.length)), (0, .ref (σ.2.1 19))] dX3_fair_9 rfl (by decide) rfl ?_
  refine q_iconst C (nI 0) dX3_fair_10 (by decide) ?_
  refine q_istore_n C [(2, .int (nI 0)), (1, .int (nI B.length)), (0, .ref (σ.2.1 19))] dX3_fair_11 rfl (by decide) rfl ?_
  have L_3 : ∀ (nL_3 : Nat) (j : Nat) (hj : j ≤ B.length), B.length - j < nL_3 → q_W σ p l e rX3_fair s m args below meth c Q 4 0 0 (q_fair V_1 B j) G [(2, .int (nI j)), (0, .ref (σ.2.1 19)), (1, .int (nI B.length))] 12 [] := by
    intro nL_3
    induction nL_3 with
    | zero => intro j hj h; exact absurd h (Nat.not_lt_zero _)
    | succ nL_3 ihL_3 =>
      intro j hj hmL_3
      refine q_iload_n C dX3_fair_12 rfl 0 rfl ?_
      refine q_iload_n C dX3_fair_13 rfl 2 rfl ?_
      refine q_icmp_geN C 70 dX3_fair_14 (by decide) (by omega) (by omega) (fun c_14 => ?_) (fun c_14 => ?_)
      · skip
        refine q_iload_n C dX3_fair_70 rfl 2 rfl ?_
        refine hR _ _ _ _ _ _ _ ?_ rfl (Nat.le_of_ble_eq_true rfl) (Nat.le_of_ble_eq_true rfl) dX3_fair_71
        obtain rfl : j = B.length := by omega
        rw [← hB]
        exact ⟨rfl, ⟨_, hoff, rfl⟩, rfl⟩
      · skip
        obtain ⟨hj7, hjr⟩ := hin j c_14
        obtain ⟨⟨c9, hc9, he9⟩, d9, hd9, he8⟩ := (hw2 _ hj7).resolve_left hjr.1
        have he9 : V_1 81 (B.getD j 0) = nI c9 := (congrFun (hoff 81 (by decide) (by decide)) _).trans he9
        have he8 : V_1 82 (B.getD j 0) = nI d9 := (congrFun (hoff 82 (by decide) (by decide)) _).trans he8
        refine q_aload_n C dX3_fair_17 rfl 1 rfl ?_
        refine q_get C (k := 19) (fi := 18) (.ref (σ.2.1 83)) (by omega) q_enMO rfl iX3_fair_X3 (by decide) (by decide +kernel) rfl rfl dX3_fair_18 ?_
        refine q_iload_n C dX3_fair_21 rfl 0 rfl ?_
        refine q_ialdN C (k := 83) (n := 7) ⟨by decide, by decide, by decide⟩ (by omega) (by decide) dX3_fair_22 ?_
        refine q_stk (st' := [.int (nI ((B.getD j 0)))]) (congrArg (fun z => Value.int z :: []) ((congrFun (q_fair_off _ _ _ 83 (by decide)) j).trans (hc2 j c_14))) ?_
        refine q_istore_n C [(3, .int (nI ((B.getD j 0)))), (2, .int (nI j)), (0, .ref (σ.2.1 19)), (1, .int (nI B.length))] dX3_fair_23 rfl (by decide) rfl ?_
        refine q_aload_n C dX3_fair_24 rfl 2 rfl ?_
        refine q_get C (k := 19) (fi := 1) (.ref (σ.2.1 69)) (by omega) q_enMO rfl iX3_fair_X3 (by decide) (by decide +kernel) rfl rfl dX3_fair_25 ?_
        refine q_bipush C (nI 8) dX3_fair_28 (by decide) ?_
        refine q_iload_n C dX3_fair_30 rfl 0 rfl ?_
        refine q_imulN C dX3_fair_31  ?_
        refine q_aload_n C dX3_fair_32 rfl 2 rfl ?_
        refine q_get C (k := 19) (fi := 16) (.ref (σ.2.1 81)) (by omega) q_enMO rfl iX3_fair_X3 (by decide) (by decide +kernel) rfl rfl dX3_fair_33 ?_
        refine q_iload_n C dX3_fair_36 rfl 0 rfl ?_
        refine q_ialdN C (k := 81) (n := 7) ⟨by decide, by decide, by decide⟩ (by omega) (by decide) dX3_fair_37 ?_
        refine q_stk (st' := [.int (nI c9), .int (nI (8 * ((B.getD j 0)))), .ref (σ.2.1 69)]) (congrArg (fun z => Value.int z :: [.int (nI (8 * ((B.getD j 0)))), .ref (σ.2.1 69)]) ((congrFun (q_fair_off _ _ _ 81 (by decide)) _).trans he9)) ?_
        refine q_iaddN C dX3_fair_38  ?_
        refine q_dup2 C dX3_fair_39 rfl rfl ?_
        refine q_ialdN C (k := 69) (n := 56) ⟨by decide, by decide, by decide⟩ (by omega) (by decide) dX3_fair_40 ?_
        refine q_iconst C (nI 1) dX3_fair_41 (by decide) ?_
        refine q_isub C dX3_fair_42 ?_
        refine q_iastN C (k := 69) (n := 56) ⟨by decide, by decide, by decide⟩ (by omega) (by decide) dX3_fair_43 ?_
        refine q_aload_n C dX3_fair_44 rfl 2 rfl ?_
        refine q_get C (k := 19) (fi := 1) (.ref (σ.2.1 69)) (by omega) q_enMO rfl iX3_fair_X3 (by decide) (by decide +kernel) rfl rfl dX3_fair_45 ?_
        refine q_bipush C (nI 8) dX3_fair_48 (by decide) ?_
        refine q_iload_n C dX3_fair_50 rfl 0 rfl ?_
        refine q_imulN C dX3_fair_51  ?_
        refine q_aload_n C dX3_fair_52 rfl 2 rfl ?_
        refine q_get C (k := 19) (fi := 17) (.ref (σ.2.1 82)) (by omega) q_enMO rfl iX3_fair_X3 (by decide) (by decide +kernel) rfl rfl dX3_fair_53 ?_
        refine q_iload_n C dX3_fair_56 rfl 0 rfl ?_
        refine q_ialdN C (k := 82) (n := 7) ⟨by decide, by decide, by decide⟩ (by omega) (by decide) dX3_fair_57 ?_
        refine q_stk (st' := [.int ((q_fair V_1 B j) 82 ((B.getD j 0))), .int (nI (8 * ((B.getD j 0)))), .ref (σ.2.1 69)]) (congrArg (fun z => Value.int z :: [.int (nI (8 * ((B.getD j 0)))), .ref (σ.2.1 69)]) (q_up_ne _ _ (by omega))) ?_
        refine q_stk (st' := [.int (nI d9), .int (nI (8 * ((B.getD j 0)))), .ref (σ.2.1 69)]) (congrArg (fun z => Value.int z :: [.int (nI (8 * ((B.getD j 0)))), .ref (σ.2.1 69)]) ((congrFun (q_fair_off _ _ _ 82 (by decide)) _).trans he8)) ?_
        refine q_iaddN C dX3_fair_58  ?_
        refine q_dup2 C dX3_fair_59 rfl rfl ?_
        refine q_ialdN C (k := 69) (n := 56) ⟨by decide, by decide, by decide⟩ (by omega) (by decide) dX3_fair_60 ?_
        refine q_iconst C (nI 1) dX3_fair_61 (by decide) ?_
        refine q_iadd C dX3_fair_62 ?_
        refine q_iastN C (k := 69) (n := 56) ⟨by decide, by decide, by decide⟩ (by omega) (by decide) dX3_fair_63 ?_
        refine q_VG (V' := q_fair V_1 B (j + 1)) (G' := G) (by exact q_fair_step he9 he8 hc9 hd9) rfl ?_
        refine q_iincN C [(2, .int (nI (j + 1))), (3, .int (nI ((B.getD j 0)))), (0, .ref (σ.2.1 19)), (1, .int (nI B.length))] dX3_fair_64 1 rfl (by decide) rfl ?_
        refine q_goto C 12 dX3_fair_67 (by decide) ?_
        refine q_sub (lv' := [(2, .int (nI (j + 1))), (0, .ref (σ.2.1 19)), (1, .int (nI B.length))]) [0, 2, 3] rfl ?_
        exact ihL_3 (j + 1) (by omega) (by omega)
  refine q_sub (lv' := [(2, .int (nI 0)), (0, .ref (σ.2.1 19)), (1, .int (nI B.length))]) [0, 2, 1] rfl ?_
  exact L_3 _ 0 (Nat.zero_le _) (Nat.lt_succ_self _)
