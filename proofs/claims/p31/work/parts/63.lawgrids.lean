abbrev rL_grids : Room := { frames := 8, cells := 300, slots := 1800, locals := 133 }
set_option maxHeartbeats 4000000 in
set_option maxRecDepth 100000 in
/-- grids -/
theorem kL_grids (l : Launch) (σ : q_E) (V : q_V) (G : q_G) (hlf : l.stackTraces = false) {n ns : Nat} {gp gs : Nat → Nat} (h4 : zR4 V n gp) (h5 : zR5 V n) (h6 : zR6 V ns gs) {col : Nat} (hcol : col < 8) : q_Mi l yL_grids wsL_grids rL_grids σ [.ref (σ.2.1 0), .ref (σ.2.1 69), .ref (σ.2.1 70), .ref (σ.2.1 18), .int (nI col)] V G (fun r V' G' => nI 1 = r ∧ V = V' ∧ G = G') 300 1800 := by
  refine q_Mi_of (cc := cL_grids) (maxL := 11) (lv := [(0, .ref (σ.2.1 0)), (1, .ref (σ.2.1 69)), (2, .ref (σ.2.1 70)), (3, .ref (σ.2.1 18)), (4, .int (nI col))]) (by decide +kernel) rfl (Nat.le_of_ble_eq_true rfl) rfl ?_
  intro p e s m args below meth c Q C hR
  have hn6 := h4.2.2.1
  have hns4 := h6.2.2.1
  refine q_iconst C (nI 0) dL_grids_0 (by decide) ?_
  refine q_istore C [(5, .int (nI 0)), (0, .ref (σ.2.1 0)), (1, .ref (σ.2.1 69)), (2, .ref (σ.2.1 70)), (3, .ref (σ.2.1 18)), (4, .int (nI col))] dL_grids_1 (by decide) rfl ?_
  have L_1 : ∀ (nL_1 : Nat) (k cl sl : Nat) (hk : k ≤ n) (hcl : cl ≤ 48 * k) (hsl : sl ≤ 288 * k), n - k < nL_1 → q_W σ p l e rL_grids s m args below meth c Q 11 cl sl V G [(5, .int (nI k)), (0, .ref (σ.2.1 0)), (1, .ref (σ.2.1 69)), (2, .ref (σ.2.1 70)), (3, .ref (σ.2.1 18)), (4, .int (nI col))] 3 [] := by
    intro nL_1
    induction nL_1 with
    | zero => intro k cl sl hk hcl hsl h; exact absurd h (Nat.not_lt_zero _)
    | succ nL_1 ihL_1 =>
      intro k cl sl hk hcl hsl hmL_1
      refine q_iload C dL_grids_3 0 rfl ?_
      refine q_aload_n C dL_grids_5 rfl 4 rfl ?_
      refine q_iconst C (nI 1) dL_grids_6 (by decide) ?_
      refine q_ialdN C (k := 18) (n := 3) ⟨by decide, by decide, by decide⟩ (by omega) (by decide) dL_grids_7 ?_
      refine q_stk (st' := [.int (nI n), .int (nI k)]) (congrArg (fun z => Value.int z :: [.int (nI k)]) (h4.2.1)) ?_
      refine q_icmp_geN C 226 dL_grids_8 (by decide) (by omega) (by omega) (fun c_8 => ?_) (fun c_8 => ?_)
      · skip
        refine q_aload_n C dL_grids_226 rfl 1 rfl ?_
        refine q_callVi C (As := []) (rest := []) (k := 0) (by omega) q_enBP rfl rfl (zM_patterns l σ V G h4) 0 gL_grids_X2_patterns rfl rfl rfl (by decide +kernel) ⟨Nat.le_of_ble_eq_true rfl, Nat.le_of_ble_eq_true rfl⟩ dL_grids_227 rfl (Nat.le_of_ble_eq_true rfl) ⟨by show _ ≤ 300; omega, by show _ ≤ 1800; omega⟩ (fun r_227 V_2 G_3 hq_227 => ?_)
        obtain ⟨rfl, rfl, rfl⟩ := hq_227
        refine q_aload_n C dL_grids_230 rfl 4 rfl ?_
        refine q_iconst C (nI 1) dL_grids_231 (by decide) ?_
        refine q_ialdN C (k := 18) (n := 3) ⟨by decide, by decide, by decide⟩ (by omega) (by decide) dL_grids_232 ?_
        refine q_stk (st' := [.int (nI n), .int (nI n)]) (congrArg (fun z => Value.int z :: [.int (nI n)]) (h4.2.1)) ?_
        refine q_icmp_ne C 240 dL_grids_233 (by decide) (fun c_233 => absurd c_233 (by exact fun z => z rfl)) (fun c_233 => ?_)
        refine q_iconst C (nI 1) dL_grids_236 (by decide) ?_
        refine q_goto C 241 dL_grids_237 (by decide) ?_
        refine hR _ _ _ _ _ _ _ ?_ (by first | rfl | decide) (by omega) (by omega) dL_grids_241
        exact ⟨rfl, rfl, rfl⟩
      · skip
        have hgk := (h4.2.2.2 k c_8).2.1
        refine q_aload_n C dL_grids_11 rfl 2 rfl ?_
        refine q_iconst C (nI 3) dL_grids_12 (by decide) ?_
        refine q_iload C dL_grids_13 0 rfl ?_
        refine q_imulN C dL_grids_15  ?_
        refine q_ialdN C (k := 69) (n := 18) ⟨by decide, by decide, by decide⟩ (by omega) (by decide) dL_grids_16 ?_
        refine q_stk (st' := [.int (nI (gp k))]) (congrArg (fun z => Value.int z :: []) ((h4.2.2.2 k c_8).1)) ?_
        refine q_istore C [(6, .int (nI (gp k))), (5, .int (nI k)), (0, .ref (σ.2.1 0)), (1, .ref (σ.2.1 69)), (2, .ref (σ.2.1 70)), (3, .ref (σ.2.1 18)), (4, .int (nI col))] dL_grids_17 (by decide) rfl ?_
        refine q_iload C dL_grids_19 0 rfl ?_
        refine q_callSi C (As := [.int (nI (gp k))]) (rest := []) (kL_turned l σ V G (g := gp k) hgk) 1 gL_grids_L_turned rfl rfl rfl (by decide +kernel) ⟨Nat.le_of_ble_eq_true rfl, Nat.le_of_ble_eq_true rfl⟩ dL_grids_21 rfl (Nat.le_of_ble_eq_true rfl) ⟨by show _ ≤ 300; omega, by show _ ≤ 1800; omega⟩ (fun r_21 V_4 G_5 hq_21 => ?_)
        obtain ⟨rfl, rfl, rfl⟩ := hq_21
        refine q_callSi C (As := [.int (nI (gtrn (gp k)))]) (rest := []) (kL_turned l σ V G (g := gtrn (gp k)) (gtrn_facts hgk).1) 1 gL_grids_L_turned rfl rfl rfl (by decide +kernel) ⟨Nat.le_of_ble_eq_true rfl, Nat.le_of_ble_eq_true rfl⟩ dL_grids_24 rfl (Nat.le_of_ble_eq_true rfl) ⟨by show _ ≤ 300; omega, by show _ ≤ 1800; omega⟩ (fun r_24 V_6 G_7 hq_24 => ?_)
        obtain ⟨rfl, rfl, rfl⟩ := hq_24
        refine q_istore C [(7, .int (nI (gtrn (gtrn (gp k))))), (6, .int (nI (gp k))), (5, .int (nI k)), (0, .ref (σ.2.1 0)), (1, .ref (σ.2.1 69)), (2, .ref (σ.2.1 70)), (3, .ref (σ.2.1 18)), (4, .int (nI col))] dL_grids_27 (by decide) rfl ?_
        refine q_iconst C (nI 0) dL_grids_29 (by decide) ?_
        refine q_stk (st' := [.int (q_cstory V k 0)]) (by rfl) ?_
        refine q_istore C [(8, .int (q_cstory V k 0)), (7, .int (nI (gtrn (gtrn (gp k))))), (6, .int (nI (gp k))), (5, .int (nI k)), (0, .ref (σ.2.1 0)), (1, .ref (σ.2.1 69)), (2, .ref (σ.2.1 70)), (3, .ref (σ.2.1 18)), (4, .int (nI col))] dL_grids_30 (by decide) rfl ?_
        have J_8 : ∀ (b1 : Nat) (hb1 : b1 = q_b (gexc (gp k) = gp k) 1), q_W σ p l e rL_grids s m args below meth c Q 11 cl sl V G [(0, .ref (σ.2.1 0)), (1, .ref (σ.2.1 69)), (2, .ref (σ.2.1 70)), (3, .ref (σ.2.1 18)), (4, .int (nI col)), (5, .int (nI k)), (6, .int (nI (gp k))), (7, .int (nI (gtrn (gtrn (gp k))))), (8, .int (q_cstory V k 0))] 47 [.int (nI b1)] := by
          intro b1 hb1
          have J_9 : ∀ (b2 : Nat) (hb2 : b2 = q_b (gexc (gtrn (gtrn (gp k))) = gp k) 2), q_W σ p l e rL_grids s m args below meth c Q 11 cl sl V G [(0, .ref (σ.2.1 0)), (1, .ref (σ.2.1 69)), (2, .ref (σ.2.1 70)), (3, .ref (σ.2.1 18)), (4, .int (nI col)), (5, .int (nI k)), (6, .int (nI (gp k))), (7, .int (nI (gtrn (gtrn (gp k))))), (8, .int (q_cstory V k 0))] 62 [.int (nI b2), .int (nI b1)] := by
            intro b2 hb2
            refine q_iaddN C dL_grids_62  ?_
            have J_10 : ∀ (b3 : Nat) (hb3 : b3 = q_b (gtrn (gtrn (gp k)) = gp k) 4), q_W σ p l e rL_grids s m args below meth c Q 11 cl sl V G [(0, .ref (σ.2.1 0)), (1, .ref (σ.2.1 69)), (2, .ref (σ.2.1 70)), (3, .ref (σ.2.1 18)), (4, .int (nI col)), (5, .int (nI k)), (6, .int (nI (gp k))), (7, .int (nI (gtrn (gtrn (gp k))))), (8, .int (q_cstory V k 0))] 75 [.int (nI b3), .int (nI (b1 + b2))] := by
              intro b3 hb3
              refine q_iaddN C dL_grids_75  ?_
              have J_11 : ∀ (b4 : Nat) (hb4 : b4 = q_b (gtrn (gp k) = gp k) 8), q_W σ p l e rL_grids s m args below meth c Q 11 cl sl V G [(0, .ref (σ.2.1 0)), (1, .ref (σ.2.1 69)), (2, .ref (σ.2.1 70)), (3, .ref (σ.2.1 18)), (4, .int (nI col)), (5, .int (nI k)), (6, .int (nI (gp k))), (7, .int (nI (gtrn (gtrn (gp k))))), (8, .int (q_cstory V k 0))] 92 [.int (nI b4), .int (nI ((b1 + b2) + b3))] := by
                intro b4 hb4
                refine q_iaddN C dL_grids_92  ?_
                refine q_istore C [(9, .int (nI (((b1 + b2) + b3) + b4))), (0, .ref (σ.2.1 0)), (1, .ref (σ.2.1 69)), (2, .ref (σ.2.1 70)), (3, .ref (σ.2.1 18)), (4, .int (nI col)), (5, .int (nI k)), (6, .int (nI (gp k))), (7, .int (nI (gtrn (gtrn (gp k))))), (8, .int (q_cstory V k 0))] dL_grids_93 (by decide) rfl ?_
                refine q_iconst C (nI 0) dL_grids_95 (by decide) ?_
                refine q_istore C [(10, .int (nI 0)), (9, .int (nI (((b1 + b2) + b3) + b4))), (0, .ref (σ.2.1 0)), (1, .ref (σ.2.1 69)), (2, .ref (σ.2.1 70)), (3, .ref (σ.2.1 18)), (4, .int (nI col)), (5, .int (nI k)), (6, .int (nI (gp k))), (7, .int (nI (gtrn (gtrn (gp k))))), (8, .int (q_cstory V k 0))] dL_grids_96 (by decide) rfl ?_
                have L_12 : ∀ (nL_12 : Nat) (i cl2 sl2 : Nat) (hi : i ≤ ns) (hcl2 : cl2 ≤ 48 * k + 6 * i) (hsl2 : sl2 ≤ 288 * k + 36 * i), ns - i < nL_12 → q_W σ p l e rL_grids s m args below meth c Q 11 cl2 sl2 V G [(8, .int (q_cstory V k i)), (10, .int (nI i)), (0, .ref (σ.2.1 0)), (1, .ref (σ.2.1 69)), (2, .ref (σ.2.1 70)), (3, .ref (σ.2.1 18)), (4, .int (nI col)), (5, .int (nI k)), (6, .int (nI (gp k))), (7, .int (nI (gtrn (gtrn (gp k))))), (9, .int (nI (((b1 + b2) + b3) + b4)))] 98 [] := by
                  intro nL_12
                  induction nL_12 with
                  | zero => intro i cl2 sl2 hi hcl2 hsl2 h; exact absurd h (Nat.not_lt_zero _)
                  | succ nL_12 ihL_12 =>
                    intro i cl2 sl2 hi hcl2 hsl2 hmL_12
                    refine q_iload C dL_grids_98 1 rfl ?_
                    refine q_aload_n C dL_grids_100 rfl 5 rfl ?_
                    refine q_iconst C (nI 2) dL_grids_101 (by decide) ?_
                    refine q_ialdN C (k := 18) (n := 3) ⟨by decide, by decide, by decide⟩ (by omega) (by decide) dL_grids_102 ?_
                    refine q_stk (st' := [.int (nI ns), .int (nI i)]) (congrArg (fun z => Value.int z :: [.int (nI i)]) (h6.2.1)) ?_
                    refine q_icmp_geN C 161 dL_grids_103 (by decide) (by omega) (by omega) (fun c_103 => ?_) (fun c_103 => ?_)
                    · skip
                      have hins : i = ns := by omega
                      refine q_aload_n C dL_grids_161 rfl 2 rfl ?_
                      refine q_iload C dL_grids_162 7 rfl ?_
                      refine q_callVi C (As := [.int (nI k)]) (rest := []) (k := 0) (by omega) q_enBP rfl rfl (zM_symmetries l σ V G hlf h4 (pa := k) c_8) 1 gL_grids_X2_symmetries rfl rfl rfl (by decide +kernel) ⟨Nat.le_of_ble_eq_true rfl, Nat.le_of_ble_eq_true rfl⟩ dL_grids_164 rfl (Nat.le_of_ble_eq_true rfl) ⟨by show _ ≤ 300; omega, by show _ ≤ 1800; omega⟩ (fun r_164 V_13 G_14 hq_164 => ?_)
                      obtain ⟨rfl, rfl, rfl⟩ := hq_164
                      refine q_iload C dL_grids_167 10 rfl ?_
                      refine q_icmp_ne C 218 dL_grids_169 (by decide) (fun c_169 => absurd c_169 (by exact fun z => z (by rw [hb1, hb2, hb3, hb4]))) (fun c_169 => ?_)
                      refine q_aload_n C dL_grids_172 rfl 2 rfl ?_
                      refine q_iload C dL_grids_173 7 rfl ?_
                      refine q_callVi C (As := [.int (nI k)]) (rest := []) (k := 0) (by omega) q_enBP rfl rfl (zM_origin l σ V G hlf h4 h5 (pa := k) c_8) 1 gL_grids_X2_origin rfl rfl rfl (by decide +kernel) ⟨Nat.le_of_ble_eq_true rfl, Nat.le_of_ble_eq_true rfl⟩ dL_grids_175 rfl (Nat.le_of_ble_eq_true rfl) ⟨by show _ ≤ 300; omega, by show _ ≤ 1800; omega⟩ (fun r_175 V_15 G_16 hq_175 => ?_)
                      obtain ⟨rfl, rfl, rfl⟩ := hq_175
                      refine q_aload_n C dL_grids_178 rfl 3 rfl ?_
                      refine q_iconst C (nI 3) dL_grids_179 (by decide) ?_
                      refine q_iload C dL_grids_180 7 rfl ?_
                      refine q_imulN C dL_grids_182  ?_
                      refine q_iconst C (nI 2) dL_grids_183 (by decide) ?_
                      refine q_iaddN C dL_grids_184  ?_
                      refine q_ialdN C (k := 69) (n := 18) ⟨by decide, by decide, by decide⟩ (by omega) (by decide) dL_grids_185 ?_
                      refine q_icmp_ne C 218 dL_grids_186 (by decide) (fun c_186 => absurd c_186 (by exact fun z => z rfl)) (fun c_186 => ?_)
                      refine q_aload_n C dL_grids_189 rfl 2 rfl ?_
                      refine q_iload C dL_grids_190 7 rfl ?_
                      refine q_iload C dL_grids_192 6 rfl ?_
                      refine q_callVi C (As := [.int (nI k), .int (nI col)]) (rest := []) (k := 0) (by omega) q_enBP rfl rfl (zM_needs l σ V G hlf h4 (pa := k) (col := col) c_8 hcol) 2 gL_grids_X2_needs rfl rfl rfl (by decide +kernel) ⟨Nat.le_of_ble_eq_true rfl, Nat.le_of_ble_eq_true rfl⟩ dL_grids_194 rfl (Nat.le_of_ble_eq_true rfl) ⟨by show _ ≤ 300; omega, by show _ ≤ 1800; omega⟩ (fun r_194 V_17 G_18 hq_194 => ?_)
                      obtain ⟨rfl, rfl, rfl⟩ := hq_194
                      refine q_iload C dL_grids_197 8 rfl ?_
                      refine q_iload C dL_grids_199 6 rfl ?_
                      refine q_callSi C (As := [.int (nI (gp k)), .int (nI col)]) (rest := [.int (nI (gneed (gp k) col))]) (kL_needs l σ V G (g := gp k) hgk (col := col) (by omega)) 2 gL_grids_L_needs rfl rfl rfl (by decide +kernel) ⟨Nat.le_of_ble_eq_true rfl, Nat.le_of_ble_eq_true rfl⟩ dL_grids_201 rfl (Nat.le_of_ble_eq_true rfl) ⟨by show _ ≤ 300; omega, by show _ ≤ 1800; omega⟩ (fun r_201 V_19 G_20 hq_201 => ?_)
                      obtain ⟨rfl, rfl, rfl⟩ := hq_201
                      refine q_icmp_ne C 218 dL_grids_204 (by decide) (fun c_204 => absurd c_204 (by exact fun z => z rfl)) (fun c_204 => ?_)
                      refine q_aload_n C dL_grids_207 rfl 2 rfl ?_
                      refine q_iload C dL_grids_208 7 rfl ?_
                      refine q_callVi C (As := [.int (nI k)]) (rest := []) (k := 0) (by omega) q_enBP rfl rfl (zM_story l σ V G hlf h4 h6 (pa := k) c_8) 1 gL_grids_X2_story rfl rfl rfl (by decide +kernel) ⟨Nat.le_of_ble_eq_true rfl, Nat.le_of_ble_eq_true rfl⟩ dL_grids_210 rfl (Nat.le_of_ble_eq_true rfl) ⟨by show _ ≤ 300; omega, by show _ ≤ 1800; omega⟩ (fun r_210 V_21 G_22 hq_210 => ?_)
                      obtain ⟨rfl, rfl, rfl⟩ := hq_210
                      refine q_iload C dL_grids_213 0 rfl ?_
                      refine q_icmp_eq C 220 dL_grids_215 (by decide) (fun c_215 => ?_) (fun c_215 => absurd c_215 (by exact fun z => z (by rw [hins])))
                      refine q_iincN C [(5, .int (nI (k + 1))), (8, .int (q_cstory V k i)), (10, .int (nI i)), (0, .ref (σ.2.1 0)), (1, .ref (σ.2.1 69)), (2, .ref (σ.2.1 70)), (3, .ref (σ.2.1 18)), (4, .int (nI col)), (6, .int (nI (gp k))), (7, .int (nI (gtrn (gtrn (gp k))))), (9, .int (nI (((b1 + b2) + b3) + b4)))] dL_grids_220 7 rfl (by decide) rfl ?_
                      refine q_goto C 3 dL_grids_223 (by decide) ?_
                      refine q_sub (lv' := [(5, .int (nI (k + 1))), (0, .ref (σ.2.1 0)), (1, .ref (σ.2.1 69)), (2, .ref (σ.2.1 70)), (3, .ref (σ.2.1 18)), (4, .int (nI col))]) [0, 3, 4, 5, 6, 7] rfl ?_
                      exact ihL_1 (k + 1) _ _ (by omega) (by omega) (by omega) (by omega)
                    · skip
                      refine q_iload C dL_grids_106 0 rfl ?_
                      refine q_aload_n C dL_grids_108 rfl 4 rfl ?_
                      refine q_iconst C (nI 2) dL_grids_109 (by decide) ?_
                      refine q_iload C dL_grids_110 1 rfl ?_
                      refine q_imulN C dL_grids_112  ?_
                      refine q_iconst C (nI 1) dL_grids_113 (by decide) ?_
                      refine q_iaddN C dL_grids_114  ?_
                      refine q_ialdN C (k := 70) (n := 8) ⟨by decide, by decide, by decide⟩ (by omega) (by decide) dL_grids_115 ?_
                      refine q_aload_n C dL_grids_116 rfl 4 rfl ?_
                      refine q_iconst C (nI 2) dL_grids_117 (by decide) ?_
                      refine q_iload C dL_grids_118 1 rfl ?_
                      refine q_imulN C dL_grids_120  ?_
                      refine q_ialdN C (k := 70) (n := 8) ⟨by decide, by decide, by decide⟩ (by omega) (by decide) dL_grids_121 ?_
                      refine q_stk (st' := [.int (nI (gs i)), .int (V 70 ((2 * i) + 1)), .int (q_cstory V k i)]) (congrArg (fun z => Value.int z :: [.int (V 70 ((2 * i) + 1)), .int (q_cstory V k i)]) ((h6.2.2.2 i (by omega)).1)) ?_
                      refine q_iload C dL_grids_122 8 rfl ?_
                      refine q_callSi C (As := [.int (nI (gs i)), .int (nI (gp k))]) (rest := [.int (V 70 ((2 * i) + 1)), .int (q_cstory V k i)]) (kL_stands l σ V G (sn := gs i) (h6.2.2.2 i (by omega)).2.1.1 (g := gp k) hgk) 2 gL_grids_L_stands rfl rfl rfl (by decide +kernel) ⟨Nat.le_of_ble_eq_true rfl, Nat.le_of_ble_eq_true rfl⟩ dL_grids_124 rfl (Nat.le_of_ble_eq_true rfl) ⟨by show _ ≤ 300; omega, by show _ ≤ 1800; omega⟩ (fun r_124 V_23 G_24 hq_124 => ?_)
                      obtain ⟨rfl, rfl, rfl⟩ := hq_124
                      refine q_imul C dL_grids_127 ?_
                      refine q_iadd C dL_grids_128 ?_
                      refine q_stk (st' := [.int (q_cstory V k (i + 1))]) (congrArg (fun z => Value.int z :: []) (zst_cs h4 h6 c_8 (by omega))) ?_
                      refine q_istore C [(8, .int (q_cstory V k (i + 1))), (10, .int (nI i)), (0, .ref (σ.2.1 0)), (1, .ref (σ.2.1 69)), (2, .ref (σ.2.1 70)), (3, .ref (σ.2.1 18)), (4, .int (nI col)), (5, .int (nI k)), (6, .int (nI (gp k))), (7, .int (nI (gtrn (gtrn (gp k))))), (9, .int (nI (((b1 + b2) + b3) + b4)))] dL_grids_129 (by decide) rfl ?_
                      refine q_aload_n C dL_grids_131 rfl 2 rfl ?_
                      refine q_iload C dL_grids_132 1 rfl ?_
                      refine q_iload C dL_grids_134 7 rfl ?_
                      refine q_callVi C (As := [.int (nI i), .int (nI k)]) (rest := []) (k := 0) (by omega) q_enBP rfl rfl (zM_stands l σ V G hlf h4 h6 (t := i) (pa := k) (by omega) c_8) 2 gL_grids_X2_stands rfl rfl rfl (by decide +kernel) ⟨Nat.le_of_ble_eq_true rfl, Nat.le_of_ble_eq_true rfl⟩ dL_grids_136 rfl (Nat.le_of_ble_eq_true rfl) ⟨by show _ ≤ 300; omega, by show _ ≤ 1800; omega⟩ (fun r_136 V_25 G_26 hq_136 => ?_)
                      obtain ⟨rfl, rfl, rfl⟩ := hq_136
                      refine q_aload_n C dL_grids_139 rfl 4 rfl ?_
                      refine q_iconst C (nI 2) dL_grids_140 (by decide) ?_
                      refine q_iload C dL_grids_141 1 rfl ?_
                      refine q_imulN C dL_grids_143  ?_
                      refine q_ialdN C (k := 70) (n := 8) ⟨by decide, by decide, by decide⟩ (by omega) (by decide) dL_grids_144 ?_
                      refine q_stk (st' := [.int (nI (gs i)), .int (nI (gstd (gs i) (gp k)))]) (congrArg (fun z => Value.int z :: [.int (nI (gstd (gs i) (gp k)))]) ((h6.2.2.2 i (by omega)).1)) ?_
                      refine q_iload C dL_grids_145 8 rfl ?_
                      refine q_callSi C (As := [.int (nI (gs i)), .int (nI (gp k))]) (rest := [.int (nI (gstd (gs i) (gp k)))]) (kL_stands l σ V G (sn := gs i) (h6.2.2.2 i (by omega)).2.1.1 (g := gp k) hgk) 2 gL_grids_L_stands rfl rfl rfl (by decide +kernel) ⟨Nat.le_of_ble_eq_true rfl, Nat.le_of_ble_eq_true rfl⟩ dL_grids_147 rfl (Nat.le_of_ble_eq_true rfl) ⟨by show _ ≤ 300; omega, by show _ ≤ 1800; omega⟩ (fun r_147 V_27 G_28 hq_147 => ?_)
                      obtain ⟨rfl, rfl, rfl⟩ := hq_147
                      refine q_icmp_eq C 155 dL_grids_150 (by decide) (fun c_150 => ?_) (fun c_150 => absurd c_150 (by exact fun z => z rfl))
                      refine q_iincN C [(10, .int (nI (i + 1))), (8, .int (q_cstory V k (i + 1))), (0, .ref (σ.2.1 0)), (1, .ref (σ.2.1 69)), (2, .ref (σ.2.1 70)), (3, .ref (σ.2.1 18)), (4, .int (nI col)), (5, .int (nI k)), (6, .int (nI (gp k))), (7, .int (nI (gtrn (gtrn (gp k))))), (9, .int (nI (((b1 + b2) + b3) + b4)))] dL_grids_155 1 rfl (by decide) rfl ?_
                      refine q_goto C 98 dL_grids_158 (by decide) ?_
                      refine q_sub (lv' := [(8, .int (q_cstory V k (i + 1))), (10, .int (nI (i + 1))), (0, .ref (σ.2.1 0)), (1, .ref (σ.2.1 69)), (2, .ref (σ.2.1 70)), (3, .ref (σ.2.1 18)), (4, .int (nI col)), (5, .int (nI k)), (6, .int (nI (gp k))), (7, .int (nI (gtrn (gtrn (gp k))))), (9, .int (nI (((b1 + b2) + b3) + b4)))]) [1, 0, 2, 3, 4, 5, 6, 7, 8, 9, 10] rfl ?_
                      exact ihL_12 (i + 1) _ _ (by omega) (by omega) (by omega) (by omega)
                refine q_sub (lv' := [(8, .int (q_cstory V k 0)), (10, .int (nI 0)), (0, .ref (σ.2.1 0)), (1, .ref (σ.2.1 69)), (2, .ref (σ.2.1 70)), (3, .ref (σ.2.1 18)), (4, .int (nI col)), (5, .int (nI k)), (6, .int (nI (gp k))), (7, .int (nI (gtrn (gtrn (gp k))))), (9, .int (nI (((b1 + b2) + b3) + b4)))]) [10, 0, 2, 3, 4, 5, 6, 7, 8, 9, 1] rfl ?_
                exact L_12 _ 0 _ _ (Nat.zero_le _) (by omega) (by omega) (Nat.lt_succ_self _)
              refine q_iload C dL_grids_76 6 rfl ?_
              refine q_callSi C (As := [.int (nI (gp k))]) (rest := [.int (nI ((b1 + b2) + b3))]) (kL_turned l σ V G (g := gp k) hgk) 1 gL_grids_L_turned rfl rfl rfl (by decide +kernel) ⟨Nat.le_of_ble_eq_true rfl, Nat.le_of_ble_eq_true rfl⟩ dL_grids_78 rfl (Nat.le_of_ble_eq_true rfl) ⟨by show _ ≤ 300; omega, by show _ ≤ 1800; omega⟩ (fun r_78 V_29 G_30 hq_78 => ?_)
              obtain ⟨rfl, rfl, rfl⟩ := hq_78
              refine q_iload C dL_grids_81 6 rfl ?_
              refine q_icmp_neN C 91 dL_grids_83 (by decide) (gtrn_facts hgk).1.1 hgk.1 (fun c_83 => ?_) (fun c_83 => ?_)
              · skip
                refine q_iconst C (nI 0) dL_grids_91 (by decide) ?_
                refine q_sub (lv' := [(0, .ref (σ.2.1 0)), (1, .ref (σ.2.1 69)), (2, .ref (σ.2.1 70)), (3, .ref (σ.2.1 18)), (4, .int (nI col)), (5, .int (nI k)), (6, .int (nI (gp k))), (7, .int (nI (gtrn (gtrn (gp k))))), (8, .int (q_cstory V k 0))]) [0, 1, 2, 3, 4, 5, 6, 7, 8] rfl ?_
                exact J_11 _ (q_b_n c_83 8).symm
              · skip
                refine q_bipush C (nI 8) dL_grids_86 (by decide) ?_
                refine q_goto C 92 dL_grids_88 (by decide) ?_
                refine q_sub (lv' := [(0, .ref (σ.2.1 0)), (1, .ref (σ.2.1 69)), (2, .ref (σ.2.1 70)), (3, .ref (σ.2.1 18)), (4, .int (nI col)), (5, .int (nI k)), (6, .int (nI (gp k))), (7, .int (nI (gtrn (gtrn (gp k))))), (8, .int (q_cstory V k 0))]) [0, 1, 2, 3, 4, 5, 6, 7, 8] rfl ?_
                exact J_11 _ (q_b_y c_83 8).symm
            refine q_iload C dL_grids_63 7 rfl ?_
            refine q_iload C dL_grids_65 6 rfl ?_
            refine q_icmp_neN C 74 dL_grids_67 (by decide) (gtrn_facts (gtrn_facts hgk).1).1.1 hgk.1 (fun c_67 => ?_) (fun c_67 => ?_)
            · skip
              refine q_iconst C (nI 0) dL_grids_74 (by decide) ?_
              refine q_sub (lv' := [(0, .ref (σ.2.1 0)), (1, .ref (σ.2.1 69)), (2, .ref (σ.2.1 70)), (3, .ref (σ.2.1 18)), (4, .int (nI col)), (5, .int (nI k)), (6, .int (nI (gp k))), (7, .int (nI (gtrn (gtrn (gp k))))), (8, .int (q_cstory V k 0))]) [0, 1, 2, 3, 4, 5, 6, 7, 8] rfl ?_
              exact J_10 _ (q_b_n c_67 4).symm
            · skip
              refine q_iconst C (nI 4) dL_grids_70 (by decide) ?_
              refine q_goto C 75 dL_grids_71 (by decide) ?_
              refine q_sub (lv' := [(0, .ref (σ.2.1 0)), (1, .ref (σ.2.1 69)), (2, .ref (σ.2.1 70)), (3, .ref (σ.2.1 18)), (4, .int (nI col)), (5, .int (nI k)), (6, .int (nI (gp k))), (7, .int (nI (gtrn (gtrn (gp k))))), (8, .int (q_cstory V k 0))]) [0, 1, 2, 3, 4, 5, 6, 7, 8] rfl ?_
              exact J_10 _ (q_b_y c_67 4).symm
          refine q_iload C dL_grids_47 7 rfl ?_
          refine q_callSi C (As := [.int (nI (gtrn (gtrn (gp k))))]) (rest := [.int (nI b1)]) (kL_exchanged l σ V G (g := gtrn (gtrn (gp k))) (gtrn_facts (gtrn_facts hgk).1).1) 1 gL_grids_L_exchanged rfl rfl rfl (by decide +kernel) ⟨Nat.le_of_ble_eq_true rfl, Nat.le_of_ble_eq_true rfl⟩ dL_grids_49 rfl (Nat.le_of_ble_eq_true rfl) ⟨by show _ ≤ 300; omega, by show _ ≤ 1800; omega⟩ (fun r_49 V_31 G_32 hq_49 => ?_)
          obtain ⟨rfl, rfl, rfl⟩ := hq_49
          refine q_iload C dL_grids_52 6 rfl ?_
          refine q_icmp_neN C 61 dL_grids_54 (by decide) (gexc_facts (gtrn_facts (gtrn_facts hgk).1).1).1.1 hgk.1 (fun c_54 => ?_) (fun c_54 => ?_)
          · skip
            refine q_iconst C (nI 0) dL_grids_61 (by decide) ?_
            refine q_sub (lv' := [(0, .ref (σ.2.1 0)), (1, .ref (σ.2.1 69)), (2, .ref (σ.2.1 70)), (3, .ref (σ.2.1 18)), (4, .int (nI col)), (5, .int (nI k)), (6, .int (nI (gp k))), (7, .int (nI (gtrn (gtrn (gp k))))), (8, .int (q_cstory V k 0))]) [0, 1, 2, 3, 4, 5, 6, 7, 8] rfl ?_
            exact J_9 _ (q_b_n c_54 2).symm
          · skip
            refine q_iconst C (nI 2) dL_grids_57 (by decide) ?_
            refine q_goto C 62 dL_grids_58 (by decide) ?_
            refine q_sub (lv' := [(0, .ref (σ.2.1 0)), (1, .ref (σ.2.1 69)), (2, .ref (σ.2.1 70)), (3, .ref (σ.2.1 18)), (4, .int (nI col)), (5, .int (nI k)), (6, .int (nI (gp k))), (7, .int (nI (gtrn (gtrn (gp k))))), (8, .int (q_cstory V k 0))]) [0, 1, 2, 3, 4, 5, 6, 7, 8] rfl ?_
            exact J_9 _ (q_b_y c_54 2).symm
        refine q_iload C dL_grids_32 2 rfl ?_
        refine q_callSi C (As := [.int (nI (gp k))]) (rest := []) (kL_exchanged l σ V G (g := gp k) hgk) 1 gL_grids_L_exchanged rfl rfl rfl (by decide +kernel) ⟨Nat.le_of_ble_eq_true rfl, Nat.le_of_ble_eq_true rfl⟩ dL_grids_34 rfl (Nat.le_of_ble_eq_true rfl) ⟨by show _ ≤ 300; omega, by show _ ≤ 1800; omega⟩ (fun r_34 V_33 G_34 hq_34 => ?_)
        obtain ⟨rfl, rfl, rfl⟩ := hq_34
        refine q_iload C dL_grids_37 2 rfl ?_
        refine q_icmp_neN C 46 dL_grids_39 (by decide) (gexc_facts hgk).1.1 hgk.1 (fun c_39 => ?_) (fun c_39 => ?_)
        · skip
          refine q_iconst C (nI 0) dL_grids_46 (by decide) ?_
          refine q_sub (lv' := [(0, .ref (σ.2.1 0)), (1, .ref (σ.2.1 69)), (2, .ref (σ.2.1 70)), (3, .ref (σ.2.1 18)), (4, .int (nI col)), (5, .int (nI k)), (6, .int (nI (gp k))), (7, .int (nI (gtrn (gtrn (gp k))))), (8, .int (q_cstory V k 0))]) [4, 5, 6, 7, 8, 3, 2, 1, 0] rfl ?_
          exact J_8 _ (q_b_n c_39 1).symm
        · skip
          refine q_iconst C (nI 1) dL_grids_42 (by decide) ?_
          refine q_goto C 47 dL_grids_43 (by decide) ?_
          refine q_sub (lv' := [(0, .ref (σ.2.1 0)), (1, .ref (σ.2.1 69)), (2, .ref (σ.2.1 70)), (3, .ref (σ.2.1 18)), (4, .int (nI col)), (5, .int (nI k)), (6, .int (nI (gp k))), (7, .int (nI (gtrn (gtrn (gp k))))), (8, .int (q_cstory V k 0))]) [4, 5, 6, 7, 8, 3, 2, 1, 0] rfl ?_
          exact J_8 _ (q_b_y c_39 1).symm
  refine q_sub (lv' := [(5, .int (nI 0)), (0, .ref (σ.2.1 0)), (1, .ref (σ.2.1 69)), (2, .ref (σ.2.1 70)), (3, .ref (σ.2.1 18)), (4, .int (nI col))]) [0, 1, 2, 3, 4, 5] rfl ?_
  exact L_1 _ 0 0 0 (Nat.zero_le _) (by omega) (by omega) (Nat.lt_succ_self _)
