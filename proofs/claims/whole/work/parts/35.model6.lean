abbrev rX3_pattern : Room := { frames := 4, cells := 0, slots := 0, locals := 92 }
theorem iX3_pattern_X3 : ∀ w ∈ u_ws RX3 TX3 26, w ∈ wsX3_pattern := by decide +kernel
set_option maxHeartbeats 4000000 in
set_option maxRecDepth 100000 in
/-- pattern, the reference -/
theorem kX3_pattern (l : Launch) (σ : q_E) (V : q_V) (G : q_G) {w h : Nat} (hdw : V 19 4 = nI w) (hdh : V 19 5 = nI h) (hw1 : 1 ≤ w) (hw8 : w ≤ 8) (hh1 : 1 ≤ h) (hh6 : h ≤ 6) {n : Nat} (hn : V 19 7 = nI n) (hn2 : n ≤ 12) (hp : q_mpats V n) (x : Int32) : q_Mi l yX3_pattern wsX3_pattern rX3_pattern σ [.ref (σ.2.1 19), .int x] V G (fun r V' G' => (((q_c2 (q_ok 7 x) (n ≠ 12)) = 0 ∧ nI n = r ∧ ∃ o, q_morg (q_pat1 V n w h x) n o ∧ q_up (q_pat1 V n w h x) 77 n (nI o) = V') ∨ ((q_c2 (q_ok 7 x) (n ≠ 12)) ≠ 0 ∧ q_up V 19 0 (nI (q_c2 (q_ok 7 x) (n ≠ 12))) = V')) ∧ G = G') 0 0 := by
  refine q_Mi_of (cc := cX3_pattern) (maxL := 5) (lv := [(0, .ref (σ.2.1 19)), (1, .int x)]) (by decide +kernel) rfl (Nat.le_of_ble_eq_true rfl) rfl ?_
  intro p e s m args below meth c Q C hR
  refine q_aload_n C dX3_pattern_0 rfl 0 rfl ?_
  refine q_iload_n C dX3_pattern_1 rfl 1 rfl ?_
  refine q_callSi C (As := [.int x]) (rest := [.ref (σ.2.1 19)]) (kX3_isPerson l σ V G x) 1 gX3_pattern_X3_isPerson rfl rfl rfl (by decide +kernel) ⟨Nat.le_of_ble_eq_true rfl, Nat.le_of_ble_eq_true rfl⟩ dX3_pattern_2 rfl (Nat.le_of_ble_eq_true rfl) ⟨Nat.le_of_ble_eq_true rfl, Nat.le_of_ble_eq_true rfl⟩ (fun r_2 V_1 G_2 hq_2 => ?_)
  obtain ⟨hs_2, rfl, rfl⟩ := hq_2
  refine q_if_ne C 12 dX3_pattern_5 (by decide) (fun c_5 => ?_) (fun c_5 => ?_)
  · skip
    have b_2 := (q_is_ne hs_2).mp c_5
    refine q_aload_n C dX3_pattern_12 rfl 0 rfl ?_
    refine q_get C (k := 19) (fi := 7) (.int (nI n)) (by omega) q_enMO rfl iX3_pattern_X3 (by decide) (by decide +kernel) rfl (congrArg (fun z => some (Value.int z)) (hn)) dX3_pattern_13 ?_
    refine q_bipush C (nI 12) dX3_pattern_16 (by decide) ?_
    refine q_icmp_neN C 25 dX3_pattern_18 (by decide) (by omega) (by omega) (fun c_18 => ?_) (fun c_18 => ?_)
    · skip
      have hn9 : n < 12 := by omega
      refine q_iconst C (nI 0) dX3_pattern_25 (by decide) ?_
      refine q_put C (k := 19) (fi := 0) tyX3 tyX3_ok nmX3 (by omega) q_enMO rfl iX3_pattern_X3 (by decide) (by decide +kernel) rfl rfl (by decide +kernel) (Nat.le_of_ble_eq_true rfl) (q_enMO |>.trans (by simp [q_up])) dX3_pattern_26 ?_
      refine q_aload_n C dX3_pattern_29 rfl 0 rfl ?_
      refine q_get C (k := 19) (fi := 0) (.int (nI 0)) (by omega) q_enMO rfl iX3_pattern_X3 (by decide) (by decide +kernel) rfl (congrArg (fun z => some (Value.int z)) (q_up_self _ _ _ _)) dX3_pattern_30 ?_
      refine q_if_le C 38 dX3_pattern_33 (by decide) (fun _ => ?_) (fun c_33 => absurd c_33 (by decide))
      refine q_aload_n C dX3_pattern_38 rfl 0 rfl ?_
      refine q_get C (k := 19) (fi := 7) (.int (nI n)) (by omega) q_enMO rfl iX3_pattern_X3 (by decide) (by decide +kernel) rfl ((congrArg (fun z => some (Value.int z)) (q_up_ne _ _ (by omega))).trans (congrArg (fun z => some (Value.int z)) (hn))) dX3_pattern_39 ?_
      refine q_istore_n C [(2, .int (nI n)), (0, .ref (σ.2.1 19)), (1, .int x)] dX3_pattern_42 rfl (by decide) rfl ?_
      refine q_aload_n C dX3_pattern_43 rfl 1 rfl ?_
      refine q_get C (k := 19) (fi := 8) (.ref (σ.2.1 73)) (by omega) q_enMO rfl iX3_pattern_X3 (by decide) (by decide +kernel) rfl rfl dX3_pattern_44 ?_
      refine q_iload_n C dX3_pattern_47 rfl 0 rfl ?_
      refine q_aload_n C dX3_pattern_48 rfl 1 rfl ?_
      refine q_get C (k := 19) (fi := 4) (.int (nI w)) (by omega) q_enMO rfl iX3_pattern_X3 (by decide) (by decide +kernel) rfl ((congrArg (fun z => some (Value.int z)) (q_up_ne _ _ (by omega))).trans (congrArg (fun z => some (Value.int z)) (hdw))) dX3_pattern_49 ?_
      refine q_iastN C (k := 73) (n := 12) ⟨by decide, by decide, by decide⟩ (by omega) (by decide) dX3_pattern_52 ?_
      refine q_aload_n C dX3_pattern_53 rfl 1 rfl ?_
      refine q_get C (k := 19) (fi := 9) (.ref (σ.2.1 74)) (by omega) q_enMO rfl iX3_pattern_X3 (by decide) (by decide +kernel) rfl rfl dX3_pattern_54 ?_
      refine q_iload_n C dX3_pattern_57 rfl 0 rfl ?_
      refine q_aload_n C dX3_pattern_58 rfl 1 rfl ?_
      refine q_get C (k := 19) (fi := 5) (.int (nI h)) (by omega) q_enMO rfl iX3_pattern_X3 (by decide) (by decide +kernel) rfl ((congrArg (fun z => some (Value.int z)) ((q_up_ne _ _ (by omega)).trans (q_up_ne _ _ (by omega)))).trans (congrArg (fun z => some (Value.int z)) (hdh))) dX3_pattern_59 ?_
      refine q_iastN C (k := 74) (n := 12) ⟨by decide, by decide, by decide⟩ (by omega) (by decide) dX3_pattern_62 ?_
      refine q_aload_n C dX3_pattern_63 rfl 1 rfl ?_
      refine q_get C (k := 19) (fi := 11) (.ref (σ.2.1 76)) (by omega) q_enMO rfl iX3_pattern_X3 (by decide) (by decide +kernel) rfl rfl dX3_pattern_64 ?_
      refine q_iload_n C dX3_pattern_67 rfl 0 rfl ?_
      refine q_iload_n C dX3_pattern_68 rfl 2 rfl ?_
      refine q_iastN C (k := 76) (n := 12) ⟨by decide, by decide, by decide⟩ (by omega) (by decide) dX3_pattern_69 ?_
      refine q_iconst C (nI 0) dX3_pattern_70 (by decide) ?_
      refine q_istore_n C [(3, .int (nI 0)), (2, .int (nI n)), (0, .ref (σ.2.1 19)), (1, .int x)] dX3_pattern_71 rfl (by decide) rfl ?_
      have L_3 : ∀ (nL_3 : Nat) (j : Nat) (hj : j ≤ 48), 48 - j < nL_3 → q_W σ p l e rX3_pattern s m args below meth c Q 5 0 0 (q_cpyo (q_up (q_up (q_up (q_up V 19 0 (nI 0)) 73 n (nI w)) 74 n (nI h)) 76 n x) 72 75 (48 * n) j) G [(3, .int (nI j)), (0, .ref (σ.2.1 19)), (1, .int x), (2, .int (nI n))] 72 [] := by
        intro nL_3
        induction nL_3 with
        | zero => intro j hj h; exact absurd h (Nat.not_lt_zero _)
        | succ nL_3 ihL_3 =>
          intro j hj hmL_3
          refine q_iload_n C dX3_pattern_72 rfl 0 rfl ?_
          refine q_bipush C (nI 48) dX3_pattern_73 (by decide) ?_
          refine q_icmp_geN C 101 dX3_pattern_75 (by decide) (by omega) (by omega) (fun c_75 => ?_) (fun c_75 => ?_)
          · skip
            obtain rfl : j = 48 := by omega
            refine q_aload_n C dX3_pattern_101 rfl 1 rfl ?_
            refine q_dup C dX3_pattern_102 rfl ?_
            refine q_get C (k := 19) (fi := 7) (.int (nI n)) (by omega) q_enMO rfl iX3_pattern_X3 (by decide) (by decide +kernel) rfl (by rw [← hn]; rfl) dX3_pattern_103 ?_
            refine q_iconst C (nI 1) dX3_pattern_106 (by decide) ?_
            refine q_iaddN C dX3_pattern_107  ?_
            refine q_put C (k := 19) (fi := 7) tyX3 tyX3_ok nmX3 (by omega) q_enMO rfl iX3_pattern_X3 (by decide) (by decide +kernel) rfl rfl (by decide +kernel) (Nat.le_of_ble_eq_true rfl) (q_enMO |>.trans (by simp [q_up])) dX3_pattern_108 ?_
            have J_4 : ∀ (U : q_V) (hUe : U = (q_pat1 V n w h x)) (hU : ∀ pa, pa ≤ n → q_mok U pa (q_n (U 73 pa)) (q_n (U 74 pa))), q_W σ p l e rX3_pattern s m args below meth c Q 5 0 0 (q_up U 77 n (nI n)) G [(0, .ref (σ.2.1 19)), (1, .int x), (2, .int (nI n))] 118 [] := by
              intro U hUe hU
              refine q_iload_n C dX3_pattern_118 rfl 2 rfl ?_
              refine q_iconst C (nI 1) dX3_pattern_119 (by decide) ?_
              refine q_isub C dX3_pattern_120 ?_
              refine q_istore_n C [(3, .int (nI n - nI 1)), (0, .ref (σ.2.1 19)), (1, .int x), (2, .int (nI n))] dX3_pattern_121 rfl (by decide) rfl ?_
              have L_5 : ∀ (nL_5 : Nat) (j o : Nat) (hj : j ≤ n) (hjo : j ≤ o) (hon : o ≤ n) (hao : o < n → q_alk U n o) (hno : ∀ o', j ≤ o' → o' < o → ¬ q_alk U n o'), j < nL_5 → q_W σ p l e rX3_pattern s m args below meth c Q 5 0 0 (q_up U 77 n (nI o)) G [(3, .int ((nI j - nI 1))), (0, .ref (σ.2.1 19)), (1, .int x), (2, .int (nI n))] 122 [] := by
                intro nL_5
                induction nL_5 with
                | zero => intro j o hj hjo hon hao hno h; exact absurd h (Nat.not_lt_zero _)
                | succ nL_5 ihL_5 =>
                  intro j o hj hjo hon hao hno hmL_5
                  refine q_iload_n C dX3_pattern_122 rfl 0 rfl ?_
                  refine q_if_lt C 188 dX3_pattern_123 (by decide) (fun c_123 => ?_) (fun c_123 => ?_)
                  · skip
                    have hj0 : j = 0 := (q_m1_lt (by omega)).mp c_123
                    refine q_iload_n C dX3_pattern_188 rfl 3 rfl ?_
                    refine hR _ _ _ _ _ _ _ ?_ rfl (Nat.le_of_ble_eq_true rfl) (Nat.le_of_ble_eq_true rfl) dX3_pattern_189
                    subst hj0
                    subst hUe
                    exact ⟨Or.inl ⟨q_c2_0 b_2 (by omega), rfl, o, ⟨hon, hao, fun o' h1 => hno o' (Nat.zero_le _) h1⟩, rfl⟩, rfl⟩
                  · skip
                    have hj0 : j ≠ 0 := fun z => c_123 ((q_m1_lt (by omega)).mpr z)
                    obtain ⟨j1, rfl⟩ : ∃ j1, j = j1 + 1 := ⟨j - 1, by omega⟩
                    refine q_lve (lv' := [(3, .int (nI j1)), (0, .ref (σ.2.1 19)), (1, .int x), (2, .int (nI n))]) (by rw [pk_sub (Nat.le_add_left 1 j1), Nat.add_sub_cancel]) ?_
                    refine q_iconst C (nI 0) dX3_pattern_126 (by decide) ?_
                    refine q_istore C [(4, .int (nI 0)), (3, .int (nI j1)), (0, .ref (σ.2.1 19)), (1, .int x), (2, .int (nI n))] dX3_pattern_127 (by decide) rfl ?_
                    have L_6 : ∀ (nL_6 : Nat) (k o2 : Nat) (hk : k ≤ 8) (hi2 : (o2 = o ∧ ∀ k', k' < k → ¬ q_malk U n j1 k') ∨ (o2 = j1 ∧ q_alk U n j1)), 8 - k < nL_6 → q_W σ p l e rX3_pattern s m args below meth c Q 5 0 0 (q_up U 77 n (nI o2)) G [(4, .int (nI k)), (0, .ref (σ.2.1 19)), (1, .int x), (2, .int (nI n)), (3, .int (nI j1))] 129 [] := by
                      intro nL_6
                      induction nL_6 with
                      | zero => intro k o2 hk hi2 h; exact absurd h (Nat.not_lt_zero _)
                      | succ nL_6 ihL_6 =>
                        intro k o2 hk hi2 hmL_6
                        refine q_iload C dX3_pattern_129 0 rfl ?_
                        refine q_bipush C (nI 8) dX3_pattern_131 (by decide) ?_
                        refine q_icmp_geN C 182 dX3_pattern_133 (by decide) (by omega) (by omega) (fun c_133 => ?_) (fun c_133 => ?_)
                        · skip
                          refine q_iinc C ((nI j1 - nI 1)) [(3, .int ((nI j1 - nI 1))), (4, .int (nI k)), (0, .ref (σ.2.1 19)), (1, .int x), (2, .int (nI n))] dX3_pattern_182 4 rfl (q_dec j1) (by decide) rfl ?_
                          refine q_goto C 122 dX3_pattern_185 (by decide) ?_
                          refine q_sub (lv' := [(3, .int ((nI j1 - nI 1))), (0, .ref (σ.2.1 19)), (1, .int x), (2, .int (nI n))]) [0, 2, 3, 4] rfl ?_
                          exact ihL_5 j1 o2 (by omega) (by rcases hi2 with ⟨z, -⟩ | ⟨z, -⟩ <;> omega) (by rcases hi2 with ⟨z, -⟩ | ⟨z, -⟩ <;> omega) (fun z => by rcases hi2 with ⟨e, -⟩ | ⟨e, h⟩; exact (by rw [e] at z ⊢; exact hao z); exact (by rw [e]; exact h)) (fun o' h1 h2 => by rcases hi2 with ⟨e, h⟩ | ⟨e, h⟩; exact (by rcases Nat.lt_or_ge j1 o' with q | q; exact hno o' (by omega) (by omega); exact (by have e9 : o' = j1 := Nat.le_antisymm q h1; rw [e9]; exact fun ⟨k', hk', z⟩ => h k' (by omega) z)); omega) (by omega)
                        · skip
                          refine q_aload_n C dX3_pattern_136 rfl 1 rfl ?_
                          refine q_get C (k := 19) (fi := 12) (.ref (σ.2.1 77)) (by omega) q_enMO rfl iX3_pattern_X3 (by decide) (by decide +kernel) rfl rfl dX3_pattern_137 ?_
                          refine q_iload_n C dX3_pattern_140 rfl 3 rfl ?_
                          refine q_aload_n C dX3_pattern_141 rfl 1 rfl ?_
                          refine q_iload_n C dX3_pattern_142 rfl 4 rfl ?_
                          refine q_iload_n C dX3_pattern_143 rfl 3 rfl ?_
                          refine q_iload C dX3_pattern_144 0 rfl ?_
                          refine q_iconst C (nI 4) dX3_pattern_146 (by decide) ?_
                          refine q_iremN C dX3_pattern_147 (by omega) (by omega) (by omega) ?_
                          refine q_iload C dX3_pattern_148 0 rfl ?_
                          refine q_iconst C (nI 3) dX3_pattern_150 (by decide) ?_
                          refine q_icmp_leN C 158 dX3_pattern_151 (by decide) (by omega) (by omega) (fun c_151 => ?_) (fun c_151 => ?_)
                          · skip
                            refine q_iconst C (nI 0) dX3_pattern_158 (by decide) ?_
                            refine q_stk (st' := [.int (nI (if 4 ≤ k then 1 else 0)), .int (nI (k % 4)), .int (nI n), .int (nI j1), .ref (σ.2.1 19), .int (nI n), .ref (σ.2.1 77)]) (congrArg (fun z => Value.int z :: [.int (nI (k % 4)), .int (nI n), .int (nI j1), .ref (σ.2.1 19), .int (nI n), .ref (σ.2.1 77)]) (congrArg nI (if_neg (by omega)).symm)) ?_
                            refine q_callVi C (As := [.int (nI j1), .int (nI n), .int (nI (k % 4)), .int (nI (if 4 ≤ k then 1 else 0))]) (rest := [.int (nI n), .ref (σ.2.1 77)]) (k := 19) (by omega) q_enMO rfl rfl (kX3_isImage l σ (q_up U 77 n (nI o2)) G (o := n) (pb := j1) (by omega) (hU n (Nat.le_refl n)) (by omega) (hU j1 (by omega)) (k := k) (by omega)) 4 gX3_pattern_X3_isImage rfl rfl rfl (by decide +kernel) ⟨Nat.le_of_ble_eq_true rfl, Nat.le_of_ble_eq_true rfl⟩ dX3_pattern_159 rfl (Nat.le_of_ble_eq_true rfl) ⟨Nat.le_of_ble_eq_true rfl, Nat.le_of_ble_eq_true rfl⟩ (fun r_159 V_7 G_8 hq_159 => ?_)
                            obtain ⟨hs_159, rfl, rfl⟩ := hq_159
                            refine q_if_eq C 169 dX3_pattern_162 (by decide) (fun c_162 => ?_) (fun c_162 => ?_)
                            · skip
                              have b_159 := (q_is_eq hs_159).mp c_162
                              refine q_aload_n C dX3_pattern_169 rfl 1 rfl ?_
                              refine q_get C (k := 19) (fi := 12) (.ref (σ.2.1 77)) (by omega) q_enMO rfl iX3_pattern_X3 (by decide) (by decide +kernel) rfl rfl dX3_pattern_170 ?_
                              refine q_iload_n C dX3_pattern_173 rfl 3 rfl ?_
                              refine q_ialdN C (k := 77) (n := 12) ⟨by decide, by decide, by decide⟩ (by omega) (by decide) dX3_pattern_174 ?_
                              refine q_stk (st' := [.int (nI o2), .int (nI n), .ref (σ.2.1 77)]) (congrArg (fun z => Value.int z :: [.int (nI n), .ref (σ.2.1 77)]) (q_up_self _ _ _ _)) ?_
                              refine q_iastN C (k := 77) (n := 12) ⟨by decide, by decide, by decide⟩ (by omega) (by decide) dX3_pattern_175 ?_
                              refine q_VG (V' := q_up U 77 n (nI o2)) (G' := G) (by exact q_up_up _ _ _ _ _) rfl ?_
                              refine q_iincN C [(4, .int (nI (k + 1))), (0, .ref (σ.2.1 19)), (1, .int x), (2, .int (nI n)), (3, .int (nI j1))] dX3_pattern_176 0 rfl (by decide) rfl ?_
                              refine q_goto C 129 dX3_pattern_179 (by decide) ?_
                              refine q_sub (lv' := [(4, .int (nI (k + 1))), (0, .ref (σ.2.1 19)), (1, .int x), (2, .int (nI n)), (3, .int (nI j1))]) [0, 1, 2, 3, 4] rfl ?_
                              exact ihL_6 (k + 1) o2 (by omega) (hi2.elim (fun q => Or.inl ⟨q.1, lt_s q.2 b_159⟩) Or.inr) (by omega)
                            · skip
                              have b_159 := (q_is_ne hs_159).mp c_162
                              refine q_iload_n C dX3_pattern_165 rfl 4 rfl ?_
                              refine q_goto C 175 dX3_pattern_166 (by decide) ?_
                              refine q_iastN C (k := 77) (n := 12) ⟨by decide, by decide, by decide⟩ (by omega) (by decide) dX3_pattern_175 ?_
                              refine q_VG (V' := q_up U 77 n (nI j1)) (G' := G) (by exact q_up_up _ _ _ _ _) rfl ?_
                              refine q_iincN C [(4, .int (nI (k + 1))), (0, .ref (σ.2.1 19)), (1, .int x), (2, .int (nI n)), (3, .int (nI j1))] dX3_pattern_176 0 rfl (by decide) rfl ?_
                              refine q_goto C 129 dX3_pattern_179 (by decide) ?_
                              refine q_sub (lv' := [(4, .int (nI (k + 1))), (0, .ref (σ.2.1 19)), (1, .int x), (2, .int (nI n)), (3, .int (nI j1))]) [0, 1, 2, 3, 4] rfl ?_
                              exact ihL_6 (k + 1) j1 (by omega) (Or.inr ⟨rfl, k, by omega, b_159⟩) (by omega)
                          · skip
                            refine q_iconst C (nI 1) dX3_pattern_154 (by decide) ?_
                            refine q_stk (st' := [.int (nI (if 4 ≤ k then 1 else 0)), .int (nI (k % 4)), .int (nI n), .int (nI j1), .ref (σ.2.1 19), .int (nI n), .ref (σ.2.1 77)]) (congrArg (fun z => Value.int z :: [.int (nI (k % 4)), .int (nI n), .int (nI j1), .ref (σ.2.1 19), .int (nI n), .ref (σ.2.1 77)]) (congrArg nI (if_pos (by omega)).symm)) ?_
                            refine q_goto C 159 dX3_pattern_155 (by decide) ?_
                            refine q_callVi C (As := [.int (nI j1), .int (nI n), .int (nI (k % 4)), .int (nI (if 4 ≤ k then 1 else 0))]) (rest := [.int (nI n), .ref (σ.2.1 77)]) (k := 19) (by omega) q_enMO rfl rfl (kX3_isImage l σ (q_up U 77 n (nI o2)) G (o := n) (pb := j1) (by omega) (hU n (Nat.le_refl n)) (by omega) (hU j1 (by omega)) (k := k) (by omega)) 4 gX3_pattern_X3_isImage rfl rfl rfl (by decide +kernel) ⟨Nat.le_of_ble_eq_true rfl, Nat.le_of_ble_eq_true rfl⟩ dX3_pattern_159 rfl (Nat.le_of_ble_eq_true rfl) ⟨Nat.le_of_ble_eq_true rfl, Nat.le_of_ble_eq_true rfl⟩ (fun r_159 V_9 G_10 hq_159 => ?_)
                            obtain ⟨hs_159, rfl, rfl⟩ := hq_159
                            refine q_if_eq C 169 dX3_pattern_162 (by decide) (fun c_162 => ?_) (fun c_162 => ?_)
                            · skip
                              have b_159 := (q_is_eq hs_159).mp c_162
                              refine q_aload_n C dX3_pattern_169 rfl 1 rfl ?_
                              refine q_get C (k := 19) (fi := 12) (.ref (σ.2.1 77)) (by omega) q_enMO rfl iX3_pattern_X3 (by decide) (by decide +kernel) rfl rfl dX3_pattern_170 ?_
                              refine q_iload_n C dX3_pattern_173 rfl 3 rfl ?_
                              refine q_ialdN C (k := 77) (n := 12) ⟨by decide, by decide, by decide⟩ (by omega) (by decide) dX3_pattern_174 ?_
                              refine q_stk (st' := [.int (nI o2), .int (nI n), .ref (σ.2.1 77)]) (congrArg (fun z => Value.int z :: [.int (nI n), .ref (σ.2.1 77)]) (q_up_self _ _ _ _)) ?_
                              refine q_iastN C (k := 77) (n := 12) ⟨by decide, by decide, by decide⟩ (by omega) (by decide) dX3_pattern_175 ?_
                              refine q_VG (V' := q_up U 77 n (nI o2)) (G' := G) (by exact q_up_up _ _ _ _ _) rfl ?_
                              refine q_iincN C [(4, .int (nI (k + 1))), (0, .ref (σ.2.1 19)), (1, .int x), (2, .int (nI n)), (3, .int (nI j1))] dX3_pattern_176 0 rfl (by decide) rfl ?_
                              refine q_goto C 129 dX3_pattern_179 (by decide) ?_
                              refine q_sub (lv' := [(4, .int (nI (k + 1))), (0, .ref (σ.2.1 19)), (1, .int x), (2, .int (nI n)), (3, .int (nI j1))]) [0, 1, 2, 3, 4] rfl ?_
                              exact ihL_6 (k + 1) o2 (by omega) (hi2.elim (fun q => Or.inl ⟨q.1, lt_s q.2 b_159⟩) Or.inr) (by omega)
                            · skip
                              have b_159 := (q_is_ne hs_159).mp c_162
                              refine q_iload_n C dX3_pattern_165 rfl 4 rfl ?_
                              refine q_goto C 175 dX3_pattern_166 (by decide) ?_
                              refine q_iastN C (k := 77) (n := 12) ⟨by decide, by decide, by decide⟩ (by omega) (by decide) dX3_pattern_175 ?_
                              refine q_VG (V' := q_up U 77 n (nI j1)) (G' := G) (by exact q_up_up _ _ _ _ _) rfl ?_
                              refine q_iincN C [(4, .int (nI (k + 1))), (0, .ref (σ.2.1 19)), (1, .int x), (2, .int (nI n)), (3, .int (nI j1))] dX3_pattern_176 0 rfl (by decide) rfl ?_
                              refine q_goto C 129 dX3_pattern_179 (by decide) ?_
                              refine q_sub (lv' := [(4, .int (nI (k + 1))), (0, .ref (σ.2.1 19)), (1, .int x), (2, .int (nI n)), (3, .int (nI j1))]) [0, 1, 2, 3, 4] rfl ?_
                              exact ihL_6 (k + 1) j1 (by omega) (Or.inr ⟨rfl, k, by omega, b_159⟩) (by omega)
                    refine q_sub (lv' := [(4, .int (nI 0)), (0, .ref (σ.2.1 19)), (1, .int x), (2, .int (nI n)), (3, .int (nI j1))]) [0, 2, 3, 4, 1] rfl ?_
                    exact L_6 _ 0 o (Nat.zero_le _) (Or.inl ⟨rfl, lt_0⟩) (Nat.lt_succ_self _)
              refine q_sub (lv' := [(3, .int (nI n - nI 1)), (0, .ref (σ.2.1 19)), (1, .int x), (2, .int (nI n))]) [0, 1, 2, 3] rfl ?_
              exact L_5 _ n n (Nat.le_refl n) (Nat.le_refl n) (Nat.le_refl n) (fun z => absurd z (Nat.lt_irrefl n)) (fun o' h1 h2 => absurd h2 (Nat.not_lt.mpr h1)) (Nat.lt_succ_self _)
            refine q_aload_n C dX3_pattern_111 rfl 1 rfl ?_
            refine q_get C (k := 19) (fi := 12) (.ref (σ.2.1 77)) (by omega) q_enMO rfl iX3_pattern_X3 (by decide) (by decide +kernel) rfl rfl dX3_pattern_112 ?_
            refine q_iload_n C dX3_pattern_115 rfl 3 rfl ?_
            refine q_iload_n C dX3_pattern_116 rfl 3 rfl ?_
            refine q_iastN C (k := 77) (n := 12) ⟨by decide, by decide, by decide⟩ (by omega) (by decide) dX3_pattern_117 ?_
            refine q_sub (lv' := [(0, .ref (σ.2.1 19)), (1, .int x), (2, .int (nI n))]) [1, 2, 3] rfl ?_
            exact J_4 (q_pat1 V n w h x) rfl (q_pat1_mok hp hw1 hw8 hh1 hh6)
          · skip
            refine q_aload_n C dX3_pattern_78 rfl 1 rfl ?_
            refine q_get C (k := 19) (fi := 10) (.ref (σ.2.1 75)) (by omega) q_enMO rfl iX3_pattern_X3 (by decide) (by decide +kernel) rfl rfl dX3_pattern_79 ?_
            refine q_bipush C (nI 48) dX3_pattern_82 (by decide) ?_
            refine q_iload_n C dX3_pattern_84 rfl 3 rfl ?_
            refine q_imulN C dX3_pattern_85  ?_
            refine q_iload_n C dX3_pattern_86 rfl 0 rfl ?_
            refine q_iaddN C dX3_pattern_87  ?_
            refine q_aload_n C dX3_pattern_88 rfl 1 rfl ?_
            refine q_get C (k := 19) (fi := 6) (.ref (σ.2.1 72)) (by omega) q_enMO rfl iX3_pattern_X3 (by decide) (by decide +kernel) rfl rfl dX3_pattern_89 ?_
            refine q_iload_n C dX3_pattern_92 rfl 0 rfl ?_
            refine q_ialdN C (k := 72) (n := 48) ⟨by decide, by decide, by decide⟩ (by omega) (by decide) dX3_pattern_93 ?_
            refine q_iastN C (k := 75) (n := 576) ⟨by decide, by decide, by decide⟩ (by omega) (by decide) dX3_pattern_94 ?_
            refine q_VG (V' := q_cpyo (q_up (q_up (q_up (q_up V 19 0 (nI 0)) 73 n (nI w)) 74 n (nI h)) 76 n x) 72 75 (48 * n) (j + 1)) (G' := G) (by exact q_cpyo_succ _ _ _ (by decide)) rfl ?_
            refine q_iincN C [(3, .int (nI (j + 1))), (0, .ref (σ.2.1 19)), (1, .int x), (2, .int (nI n))] dX3_pattern_95 0 rfl (by decide) rfl ?_
            refine q_goto C 72 dX3_pattern_98 (by decide) ?_
            refine q_sub (lv' := [(3, .int (nI (j + 1))), (0, .ref (σ.2.1 19)), (1, .int x), (2, .int (nI n))]) [0, 1, 2, 3] rfl ?_
            exact ihL_3 (j + 1) (by omega) (by omega)
      refine q_sub (lv' := [(3, .int (nI 0)), (0, .ref (σ.2.1 19)), (1, .int x), (2, .int (nI n))]) [0, 2, 3, 1] rfl ?_
      refine q_VG (V' := q_cpyo (q_up (q_up (q_up (q_up V 19 0 (nI 0)) 73 n (nI w)) 74 n (nI h)) 76 n x) 72 75 (48 * n) 0) (G' := G) ((q_cpyo_0 _ _ _ _).symm) rfl ?_
      exact L_3 _ 0 (Nat.zero_le _) (Nat.lt_succ_self _)
    · skip
      refine q_iconst C (nI 2) dX3_pattern_21 (by decide) ?_
      refine q_goto C 26 dX3_pattern_22 (by decide) ?_
      refine q_put C (k := 19) (fi := 0) tyX3 tyX3_ok nmX3 (by omega) q_enMO rfl iX3_pattern_X3 (by decide) (by decide +kernel) rfl rfl (by decide +kernel) (Nat.le_of_ble_eq_true rfl) (q_enMO |>.trans (by simp [q_up])) dX3_pattern_26 ?_
      refine q_aload_n C dX3_pattern_29 rfl 0 rfl ?_
      refine q_get C (k := 19) (fi := 0) (.int (nI 2)) (by omega) q_enMO rfl iX3_pattern_X3 (by decide) (by decide +kernel) rfl (congrArg (fun z => some (Value.int z)) (q_up_self _ _ _ _)) dX3_pattern_30 ?_
      refine q_if_le C 38 dX3_pattern_33 (by decide) (fun c_33 => absurd c_33 (by decide)) (fun _ => ?_)
      refine q_iconst C (nI 0) dX3_pattern_36 (by decide) ?_
      refine hR _ _ _ _ _ _ _ ?_ rfl (Nat.le_of_ble_eq_true rfl) (Nat.le_of_ble_eq_true rfl) dX3_pattern_37
      refine ⟨Or.inr ?_, rfl⟩
      rw [q_c2_2 b_2 (fun q => q c_18)]
      exact ⟨by decide, rfl⟩
  · skip
    have b_2 := (q_is_eq hs_2).mp c_5
    refine q_iconst C (nI 1) dX3_pattern_8 (by decide) ?_
    refine q_goto C 26 dX3_pattern_9 (by decide) ?_
    refine q_put C (k := 19) (fi := 0) tyX3 tyX3_ok nmX3 (by omega) q_enMO rfl iX3_pattern_X3 (by decide) (by decide +kernel) rfl rfl (by decide +kernel) (Nat.le_of_ble_eq_true rfl) (q_enMO |>.trans (by simp [q_up])) dX3_pattern_26 ?_
    refine q_aload_n C dX3_pattern_29 rfl 0 rfl ?_
    refine q_get C (k := 19) (fi := 0) (.int (nI 1)) (by omega) q_enMO rfl iX3_pattern_X3 (by decide) (by decide +kernel) rfl (congrArg (fun z => some (Value.int z)) (q_up_self _ _ _ _)) dX3_pattern_30 ?_
    refine q_if_le C 38 dX3_pattern_33 (by decide) (fun c_33 => absurd c_33 (by decide)) (fun _ => ?_)
    refine q_iconst C (nI 0) dX3_pattern_36 (by decide) ?_
    refine hR _ _ _ _ _ _ _ ?_ rfl (Nat.le_of_ble_eq_true rfl) (Nat.le_of_ble_eq_true rfl) dX3_pattern_37
    refine ⟨Or.inr ?_, rfl⟩
    rw [q_c2_1 b_2]
    exact ⟨by decide, rfl⟩
abbrev rX3_ranked : Room := { frames := 2, cells := 0, slots := 0, locals := 34 }
theorem iX3_ranked_X3 : ∀ w ∈ u_ws RX3 TX3 26, w ∈ wsX3_ranked := by decide +kernel
set_option maxHeartbeats 4000000 in
set_option maxRecDepth 100000 in
/-- ranked, the reference -/
theorem kX3_ranked (l : Launch) (σ : q_E) (V : q_V) (G : q_G) (x : Int32) : q_Mi l yX3_ranked wsX3_ranked rX3_ranked σ [.ref (σ.2.1 19), .int x] V G (fun r V' G' => ((q_c1 (q_ok 7 x) = 0 ∧ q_mfd (G 89) x 7 = r) ∨ q_c1 (q_ok 7 x) ≠ 0) ∧ q_up V 19 0 (nI (q_c1 (q_ok 7 x))) = V' ∧ G = G') 0 0 := by
  refine q_Mi_of (cc := cX3_ranked) (maxL := 6) (lv := [(0, .ref (σ.2.1 19)), (1, .int x)]) (by decide +kernel) rfl (Nat.le_of_ble_eq_true rfl) rfl ?_
  intro p e s m args below meth c Q C hR
  have J_1 : ∀ (tt : Nat) (htt : tt = q_c1 (q_ok 7 x)), q_W σ p l e rX3_ranked s m args below meth c Q 6 0 0 (q_up V 19 0 (nI tt)) G [(0, .ref (σ.2.1 19)), (1, .int x)] 19 [] := by
    intro tt htt
    refine q_iconst C (nI 0) dX3_ranked_19 (by decide) ?_
    refine q_istore_n C [(2, .int (nI 0)), (0, .ref (σ.2.1 19)), (1, .int x)] dX3_ranked_20 rfl (by decide) rfl ?_
    refine q_iconst C (nI 0) dX3_ranked_21 (by decide) ?_
    refine q_istore_n C [(3, .int (nI 0)), (2, .int (nI 0)), (0, .ref (σ.2.1 19)), (1, .int x)] dX3_ranked_22 rfl (by decide) rfl ?_
    have L_2 : ∀ (nL_2 : Nat) (j : Nat) (f9 : Int32) (hj : j ≤ 7) (hf : f9 = q_mfd (G 89) x j), 7 - j < nL_2 → q_W σ p l e rX3_ranked s m args below meth c Q 6 0 0 (q_up V 19 0 (nI tt)) G [(2, .int f9), (3, .int (nI j)), (0, .ref (σ.2.1 19)), (1, .int x)] 23 [] := by
      intro nL_2
      induction nL_2 with
      | zero => intro j f9 hj hf h; exact absurd h (Nat.not_lt_zero _)
      | succ nL_2 ihL_2 =>
        intro j f9 hj hf hmL_2
        refine q_iload_n C dX3_ranked_23 rfl 1 rfl ?_
        refine q_bipush C (nI 7) dX3_ranked_24 (by decide) ?_
        refine q_icmp_geN C 116 dX3_ranked_26 (by decide) (by omega) (by omega) (fun c_26 => ?_) (fun c_26 => ?_)
        · skip
          refine q_aload_n C dX3_ranked_116 rfl 2 rfl ?_
          refine q_get C (k := 19) (fi := 0) (.int (nI tt)) (by omega) q_enMO rfl iX3_ranked_X3 (by decide) (by decide +kernel) rfl (by rw [q_up_self]; rfl) dX3_ranked_117 ?_
          refine q_if_leN C 127 dX3_ranked_120 (by decide) (by rw [htt]; unfold q_c1; split <;> decide) (fun c_120 => ?_) (fun c_120 => ?_)
          · skip
            refine q_iload_n C dX3_ranked_127 rfl 0 rfl ?_
            refine hR _ _ _ _ _ _ _ ?_ rfl (Nat.le_of_ble_eq_true rfl) (Nat.le_of_ble_eq_true rfl) dX3_ranked_128
            subst htt
            exact ⟨Or.inl ⟨c_120, by rw [hf, show j = 7 by omega]⟩, rfl, rfl⟩
          · skip
            refine q_iconst C (nI 0) dX3_ranked_123 (by decide) ?_
            refine q_goto C 128 dX3_ranked_124 (by decide) ?_
            refine hR _ _ _ _ _ _ _ ?_ rfl (Nat.le_of_ble_eq_true rfl) (Nat.le_of_ble_eq_true rfl) dX3_ranked_128
            subst htt
            refine ⟨Or.inr (by omega), rfl, rfl⟩
        · skip
          refine q_iconst C (nI 0) dX3_ranked_29 (by decide) ?_
          refine q_istore C [(4, .int (nI 0)), (2, .int f9), (3, .int (nI j)), (0, .ref (σ.2.1 19)), (1, .int x)] dX3_ranked_30 (by decide) rfl ?_
          refine q_iconst C (nI 0) dX3_ranked_32 (by decide) ?_
          refine q_istore C [(5, .int (nI 0)), (4, .int (nI 0)), (2, .int f9), (3, .int (nI j)), (0, .ref (σ.2.1 19)), (1, .int x)] dX3_ranked_33 (by decide) rfl ?_
          have L_3 : ∀ (nL_3 : Nat) (i9 n9 : Nat) (hi9 : i9 ≤ 7) (hn9 : n9 = q_ct (fun i => G 89 j < G 89 i ∨ (G 89 i = G 89 j ∧ i < j)) i9), 7 - i9 < nL_3 → q_W σ p l e rX3_ranked s m args below meth c Q 6 0 0 (q_up V 19 0 (nI tt)) G [(4, .int (nI n9)), (5, .int (nI i9)), (0, .ref (σ.2.1 19)), (1, .int x), (2, .int f9), (3, .int (nI j))] 35 [] := by
            intro nL_3
            induction nL_3 with
            | zero => intro i9 n9 hi9 hn9 h; exact absurd h (Nat.not_lt_zero _)
            | succ nL_3 ihL_3 =>
              intro i9 n9 hi9 hn9 hmL_3
              refine q_iload C dX3_ranked_35 1 rfl ?_
              refine q_bipush C (nI 7) dX3_ranked_37 (by decide) ?_
              refine q_icmp_geN C 98 dX3_ranked_39 (by decide) (by omega) (by omega) (fun c_39 => ?_) (fun c_39 => ?_)
              · skip
                refine q_iload C dX3_ranked_98 0 rfl ?_
                refine q_iload_n C dX3_ranked_100 rfl 3 rfl ?_
                refine q_icmp_ne C 108 dX3_ranked_101 (by decide) (fun c_101 => ?_) (fun c_101 => ?_)
                · skip
                  refine q_iload_n C dX3_ranked_108 rfl 4 rfl ?_
                  refine q_istore_n C [(2, .int f9), (4, .int (nI n9)), (5, .int (nI i9)), (0, .ref (σ.2.1 19)), (1, .int x), (3, .int (nI j))] dX3_ranked_109 rfl (by decide) rfl ?_
                  refine q_iincN C [(3, .int (nI (j + 1))), (2, .int f9), (4, .int (nI n9)), (5, .int (nI i9)), (0, .ref (σ.2.1 19)), (1, .int x)] dX3_ranked_110 5 rfl (by decide) rfl ?_
                  refine q_goto C 23 dX3_ranked_113 (by decide) ?_
                  refine q_sub (lv' := [(2, .int f9), (3, .int (nI (j + 1))), (0, .ref (σ.2.1 19)), (1, .int x)]) [1, 0, 4, 5] rfl ?_
                  exact ihL_2 (j + 1) _ (by omega) (by show _ = (if nI (q_rk (G 89) j) = x then nI j else q_mfd (G 89) x j); rw [show q_rk (G 89) j = n9 by rw [hn9, show i9 = 7 by omega]; rfl]; first | rw [if_pos c_101] | rw [if_neg c_101, hf]) (by omega)
                · skip
                  refine q_iload_n C dX3_ranked_104 rfl 5 rfl ?_
                  refine q_goto C 109 dX3_ranked_105 (by decide) ?_
                  refine q_istore_n C [(2, .int (nI j)), (4, .int (nI n9)), (5, .int (nI i9)), (0, .ref (σ.2.1 19)), (1, .int x), (3, .int (nI j))] dX3_ranked_109 rfl (by decide) rfl ?_
                  refine q_iincN C [(3, .int (nI (j + 1))), (2, .int (nI j)), (4, .int (nI n9)), (5, .int (nI i9)), (0, .ref (σ.2.1 19)), (1, .int x)] dX3_ranked_110 5 rfl (by decide) rfl ?_
                  refine q_goto C 23 dX3_ranked_113 (by decide) ?_
                  refine q_sub (lv' := [(2, .int (nI j)), (3, .int (nI (j + 1))), (0, .ref (σ.2.1 19)), (1, .int x)]) [1, 0, 4, 5] rfl ?_
                  exact ihL_2 (j + 1) _ (by omega) (by show _ = (if nI (q_rk (G 89) j) = x then nI j else q_mfd (G 89) x j); rw [show q_rk (G 89) j = n9 by rw [hn9, show i9 = 7 by omega]; rfl]; first | rw [if_pos c_101] | rw [if_neg c_101, hf]) (by omega)
              · skip
                refine q_iload C dX3_ranked_42 0 rfl ?_
                refine q_aload_n C dX3_ranked_44 rfl 2 rfl ?_
                refine q_get C (k := 19) (fi := 25) (.ref (σ.2.1 89)) (by omega) q_enMO rfl iX3_ranked_X3 (by decide) (by decide +kernel) rfl rfl dX3_ranked_45 ?_
                refine q_iload C dX3_ranked_48 1 rfl ?_
                refine q_laldN C (k := 89) (n := 7) ⟨by decide, by decide, by decide⟩ (by omega) (by decide) dX3_ranked_50 ?_
                refine q_aload_n C dX3_ranked_51 rfl 2 rfl ?_
                refine q_get C (k := 19) (fi := 25) (.ref (σ.2.1 89)) (by omega) q_enMO rfl iX3_ranked_X3 (by decide) (by decide +kernel) rfl rfl dX3_ranked_52 ?_
                refine q_iload_n C dX3_ranked_55 rfl 5 rfl ?_
                refine q_laldN C (k := 89) (n := 7) ⟨by decide, by decide, by decide⟩ (by omega) (by decide) dX3_ranked_56 ?_
                refine q_lcmp C dX3_ranked_57 ?_
                refine q_if_gt C 84 dX3_ranked_58 (by decide) (fun c_58 => ?_) (fun c_58 => ?_)
                · skip
                  refine q_iconst C (nI 1) dX3_ranked_84 (by decide) ?_
                  refine q_goto C 89 dX3_ranked_85 (by decide) ?_
                  refine q_iaddN C dX3_ranked_89  ?_
                  refine q_istore C [(4, .int (nI (n9 + 1))), (5, .int (nI i9)), (0, .ref (σ.2.1 19)), (1, .int x), (2, .int f9), (3, .int (nI j))] dX3_ranked_90 (by decide) rfl ?_
                  refine q_iincN C [(5, .int (nI (i9 + 1))), (4, .int (nI (n9 + 1))), (0, .ref (σ.2.1 19)), (1, .int x), (2, .int f9), (3, .int (nI j))] dX3_ranked_92 1 rfl (by decide) rfl ?_
                  refine q_goto C 35 dX3_ranked_95 (by decide) ?_
                  refine q_sub (lv' := [(4, .int (nI (n9 + 1))), (5, .int (nI (i9 + 1))), (0, .ref (σ.2.1 19)), (1, .int x), (2, .int f9), (3, .int (nI j))]) [1, 0, 2, 3, 4, 5] rfl ?_
                  exact ihL_3 (i9 + 1) _ (by omega) (by first | (rw [hn9]; exact (q_ct_y (p := (fun i => G 89 j < G 89 i ∨ (G 89 i = G 89 j ∧ i < j))) (Or.inl ((lg_cmp_gt _ _).mp c_58))).symm) | (rw [hn9]; exact (q_ct_y (p := (fun i => G 89 j < G 89 i ∨ (G 89 i = G 89 j ∧ i < j))) (Or.inr ⟨(lg_cmp_eq _ _).mp c_75, c_81⟩)).symm) | exact hn9.trans (q_ct_n (p := (fun i => G 89 j < G 89 i ∨ (G 89 i = G 89 j ∧ i < j))) (fun z => z.elim (fun q => c_58 ((lg_cmp_gt _ _).mpr q)) (fun q => c_75 ((lg_cmp_eq _ _).mpr q.1)))).symm | exact hn9.trans (q_ct_n (p := (fun i => G 89 j < G 89 i ∨ (G 89 i = G 89 j ∧ i < j))) (fun z => z.elim (fun q => c_58 ((lg_cmp_gt _ _).mpr q)) (fun q => Nat.not_lt.mpr c_81 q.2))).symm) (by omega)
                · skip
                  refine q_aload_n C dX3_ranked_61 rfl 2 rfl ?_
                  refine q_get C (k := 19) (fi := 25) (.ref (σ.2.1 89)) (by omega) q_enMO rfl iX3_ranked_X3 (by decide) (by decide +kernel) rfl rfl dX3_ranked_62 ?_
                  refine q_iload C dX3_ranked_65 1 rfl ?_
                  refine q_laldN C (k := 89) (n := 7) ⟨by decide, by decide, by decide⟩ (by omega) (by decide) dX3_ranked_67 ?_
                  refine q_aload_n C dX3_ranked_68 rfl 2 rfl ?_
                  refine q_get C (k := 19) (fi := 25) (.ref (σ.2.1 89)) (by omega) q_enMO rfl iX3_ranked_X3 (by decide) (by decide +kernel) rfl rfl dX3_ranked_69 ?_
                  refine q_iload_n C dX3_ranked_72 rfl 5 rfl ?_
                  refine q_laldN C (k := 89) (n := 7) ⟨by decide, by decide, by decide⟩ (by omega) (by decide) dX3_ranked_73 ?_
                  refine q_lcmp C dX3_ranked_74 ?_
                  refine q_if_ne C 88 dX3_ranked_75 (by decide) (fun c_75 => ?_) (fun c_75 => ?_)
                  · skip
                    refine q_iconst C (nI 0) dX3_ranked_88 (by decide) ?_
                    refine q_iaddN C dX3_ranked_89  ?_
                    refine q_istore C [(4, .int (nI (n9 + 0))), (5, .int (nI i9)), (0, .ref (σ.2.1 19)), (1, .int x), (2, .int f9), (3, .int (nI j))] dX3_ranked_90 (by decide) rfl ?_
                    refine q_iincN C [(5, .int (nI (i9 + 1))), (4, .int (nI (n9 + 0))), (0, .ref (σ.2.1 19)), (1, .int x), (2, .int f9), (3, .int (nI j))] dX3_ranked_92 1 rfl (by decide) rfl ?_
                    refine q_goto C 35 dX3_ranked_95 (by decide) ?_
                    refine q_sub (lv' := [(4, .int (nI (n9 + 0))), (5, .int (nI (i9 + 1))), (0, .ref (σ.2.1 19)), (1, .int x), (2, .int f9), (3, .int (nI j))]) [1, 0, 2, 3, 4, 5] rfl ?_
                    exact ihL_3 (i9 + 1) _ (by omega) (by first | (rw [hn9]; exact (q_ct_y (p := (fun i => G 89 j < G 89 i ∨ (G 89 i = G 89 j ∧ i < j))) (Or.inl ((lg_cmp_gt _ _).mp c_58))).symm) | (rw [hn9]; exact (q_ct_y (p := (fun i => G 89 j < G 89 i ∨ (G 89 i = G 89 j ∧ i < j))) (Or.inr ⟨(lg_cmp_eq _ _).mp c_75, c_81⟩)).symm) | exact hn9.trans (q_ct_n (p := (fun i => G 89 j < G 89 i ∨ (G 89 i = G 89 j ∧ i < j))) (fun z => z.elim (fun q => c_58 ((lg_cmp_gt _ _).mpr q)) (fun q => c_75 ((lg_cmp_eq _ _).mpr q.1)))).symm | exact hn9.trans (q_ct_n (p := (fun i => G 89 j < G 89 i ∨ (G 89 i = G 89 j ∧ i < j))) (fun z => z.elim (fun q => c_58 ((lg_cmp_gt _ _).mpr q)) (fun q => Nat.not_lt.mpr c_81 q.2))).symm) (by omega)
                  · skip
                    refine q_iload C dX3_ranked_78 1 rfl ?_
                    refine q_iload_n C dX3_ranked_80 rfl 5 rfl ?_
                    refine q_icmp_geN C 88 dX3_ranked_81 (by decide) (by omega) (by omega) (fun c_81 => ?_) (fun c_81 => ?_)
                    · skip
                      refine q_iconst C (nI 0) dX3_ranked_88 (by decide) ?_
                      refine q_iaddN C dX3_ranked_89  ?_
                      refine q_istore C [(4, .int (nI (n9 + 0))), (5, .int (nI i9)), (0, .ref (σ.2.1 19)), (1, .int x), (2, .int f9), (3, .int (nI j))] dX3_ranked_90 (by decide) rfl ?_
                      refine q_iincN C [(5, .int (nI (i9 + 1))), (4, .int (nI (n9 + 0))), (0, .ref (σ.2.1 19)), (1, .int x), (2, .int f9), (3, .int (nI j))] dX3_ranked_92 1 rfl (by decide) rfl ?_
                      refine q_goto C 35 dX3_ranked_95 (by decide) ?_
                      refine q_sub (lv' := [(4, .int (nI (n9 + 0))), (5, .int (nI (i9 + 1))), (0, .ref (σ.2.1 19)), (1, .int x), (2, .int f9), (3, .int (nI j))]) [1, 0, 2, 3, 4, 5] rfl ?_
                      exact ihL_3 (i9 + 1) _ (by omega) (by first | (rw [hn9]; exact (q_ct_y (p := (fun i => G 89 j < G 89 i ∨ (G 89 i = G 89 j ∧ i < j))) (Or.inl ((lg_cmp_gt _ _).mp c_58))).symm) | (rw [hn9]; exact (q_ct_y (p := (fun i => G 89 j < G 89 i ∨ (G 89 i = G 89 j ∧ i < j))) (Or.inr ⟨(lg_cmp_eq _ _).mp c_75, c_81⟩)).symm) | exact hn9.trans (q_ct_n (p := (fun i => G 89 j < G 89 i ∨ (G 89 i = G 89 j ∧ i < j))) (fun z => z.elim (fun q => c_58 ((lg_cmp_gt _ _).mpr q)) (fun q => c_75 ((lg_cmp_eq _ _).mpr q.1)))).symm | exact hn9.trans (q_ct_n (p := (fun i => G 89 j < G 89 i ∨ (G 89 i = G 89 j ∧ i < j))) (fun z => z.elim (fun q => c_58 ((lg_cmp_gt _ _).mpr q)) (fun q => Nat.not_lt.mpr c_81 q.2))).symm) (by omega)
                    · skip
                      refine q_iconst C (nI 1) dX3_ranked_84 (by decide) ?_
                      refine q_goto C 89 dX3_ranked_85 (by decide) ?_
                      refine q_iaddN C dX3_ranked_89  ?_
                      refine q_istore C [(4, .int (nI (n9 + 1))), (5, .int (nI i9)), (0, .ref (σ.2.1 19)), (1, .int x), (2, .int f9), (3, .int (nI j))] dX3_ranked_90 (by decide) rfl ?_
                      refine q_iincN C [(5, .int (nI (i9 + 1))), (4, .int (nI (n9 + 1))), (0, .ref (σ.2.1 19)), (1, .int x), (2, .int f9), (3, .int (nI j))] dX3_ranked_92 1 rfl (by decide) rfl ?_
                      refine q_goto C 35 dX3_ranked_95 (by decide) ?_
                      refine q_sub (lv' := [(4, .int (nI (n9 + 1))), (5, .int (nI (i9 + 1))), (0, .ref (σ.2.1 19)), (1, .int x), (2, .int f9), (3, .int (nI j))]) [1, 0, 2, 3, 4, 5] rfl ?_
                      exact ihL_3 (i9 + 1) _ (by omega) (by first | (rw [hn9]; exact (q_ct_y (p := (fun i => G 89 j < G 89 i ∨ (G 89 i = G 89 j ∧ i < j))) (Or.inl ((lg_cmp_gt _ _).mp c_58))).symm) | (rw [hn9]; exact (q_ct_y (p := (fun i => G 89 j < G 89 i ∨ (G 89 i = G 89 j ∧ i < j))) (Or.inr ⟨(lg_cmp_eq _ _).mp c_75, c_81⟩)).symm) | exact hn9.trans (q_ct_n (p := (fun i => G 89 j < G 89 i ∨ (G 89 i = G 89 j ∧ i < j))) (fun z => z.elim (fun q => c_58 ((lg_cmp_gt _ _).mpr q)) (fun q => c_75 ((lg_cmp_eq _ _).mpr q.1)))).symm | exact hn9.trans (q_ct_n (p := (fun i => G 89 j < G 89 i ∨ (G 89 i = G 89 j ∧ i < j))) (fun z => z.elim (fun q => c_58 ((lg_cmp_gt _ _).mpr q)) (fun q => Nat.not_lt.mpr c_81 q.2))).symm) (by omega)
          refine q_sub (lv' := [(4, .int (nI 0)), (5, .int (nI 0)), (0, .ref (σ.2.1 19)), (1, .int x), (2, .int f9), (3, .int (nI j))]) [1, 0, 4, 5, 2, 3] rfl ?_
          exact L_3 _ 0 0 (Nat.zero_le _) rfl (Nat.lt_succ_self _)
    refine q_sub (lv' := [(2, .int (nI 0)), (3, .int (nI 0)), (0, .ref (σ.2.1 19)), (1, .int x)]) [1, 0, 2, 3] rfl ?_
    exact L_2 _ 0 _ (Nat.zero_le _) rfl (Nat.lt_succ_self _)
  refine q_aload_n C dX3_ranked_0 rfl 0 rfl ?_
  refine q_iload_n C dX3_ranked_1 rfl 1 rfl ?_
  refine q_iconst C (nI 0) dX3_ranked_2 (by decide) ?_
  refine q_bipush C (nI 6) dX3_ranked_3 (by decide) ?_
  refine q_callSi C (As := [.int x, .int (nI 0), .int (nI 6)]) (rest := [.ref (σ.2.1 19)]) (kX3_isIn l σ V G x (nI 0) (nI 6)) 3 gX3_ranked_X3_isIn rfl rfl rfl (by decide +kernel) ⟨Nat.le_of_ble_eq_true rfl, Nat.le_of_ble_eq_true rfl⟩ dX3_ranked_5 rfl (Nat.le_of_ble_eq_true rfl) ⟨Nat.le_of_ble_eq_true rfl, Nat.le_of_ble_eq_true rfl⟩ (fun r_5 V_4 G_5 hq_5 => ?_)
  obtain ⟨hs_5, rfl, rfl⟩ := hq_5
  refine q_if_eq C 15 dX3_ranked_8 (by decide) (fun c_8 => ?_) (fun c_8 => ?_)
  · skip
    have b_5 := (q_is_eq hs_5).mp c_8
    refine q_iconst C (nI 1) dX3_ranked_15 (by decide) ?_
    refine q_put C (k := 19) (fi := 0) tyX3 tyX3_ok nmX3 (by omega) q_enMO rfl iX3_ranked_X3 (by decide) (by decide +kernel) rfl rfl (by decide +kernel) (Nat.le_of_ble_eq_true rfl) (q_enMO |>.trans (by simp [q_up])) dX3_ranked_16 ?_
    refine q_sub (lv' := [(0, .ref (σ.2.1 19)), (1, .int x)]) [0, 1] rfl ?_
    exact J_1 _ (by first | exact (q_c1_0 (q_in_ok (m := 6) (by decide) |>.mp b_5)).symm | exact (q_c1_1 (fun q => b_5 ((q_in_ok (m := 6) (by decide)).mpr q))).symm)
  · skip
    have b_5 := (q_is_ne hs_5).mp c_8
    refine q_iconst C (nI 0) dX3_ranked_11 (by decide) ?_
    refine q_goto C 16 dX3_ranked_12 (by decide) ?_
    refine q_put C (k := 19) (fi := 0) tyX3 tyX3_ok nmX3 (by omega) q_enMO rfl iX3_ranked_X3 (by decide) (by decide +kernel) rfl rfl (by decide +kernel) (Nat.le_of_ble_eq_true rfl) (q_enMO |>.trans (by simp [q_up])) dX3_ranked_16 ?_
    refine q_sub (lv' := [(0, .ref (σ.2.1 19)), (1, .int x)]) [0, 1] rfl ?_
    exact J_1 _ (by first | exact (q_c1_0 (q_in_ok (m := 6) (by decide) |>.mp b_5)).symm | exact (q_c1_1 (fun q => b_5 ((q_in_ok (m := 6) (by decide)).mpr q))).symm)
