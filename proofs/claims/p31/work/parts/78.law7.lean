set_option maxHeartbeats 2000000 in
set_option maxRecDepth 100000 in
/-- the law's turns -/
theorem w_loop {σ : q_E} {p : Program} {e : Env} {s : State} {m : MethodId} {below : List Frame} {meth : Method} {c : Code} {b L : Nat} {xs : Nat → Int32} (l : Launch) (hlf : l.stackTraces = false) (C : q_C σ p s m #[Value.ref b] c cL_law 21 RL wsL_law) (X : w_X σ s b L xs) (hr : meth.sig.returnType = ret) (hlocks : meth.locks = false) (hσ : ∀ k, k < 75 → s.heap.size ≤ σ.2.1 k) : ∀ (N9 t : Nat) (V : q_V) (G : q_G) (n ns g0 : Nat) (gp gs : Nat → Nat) (cells slots : Nat), zRel V G (30 * t) n ns g0 gp gs → t ≤ 50 → 50 - t < N9 → cells ≤ 1000 + 960 * t → slots ≤ 10000 + 5760 * t → q_W σ p l e room_1 s m #[Value.ref b] below meth c (lw_Z below #[Value.ref b] s) 21 cells slots V G [(10, .int (nI t)), (0, .ref b), (1, .ref (σ.2.1 0)), (2, .ref (σ.2.1 69)), (3, .ref (σ.2.1 70)), (4, .ref (σ.2.1 71)), (5, .ref (σ.2.1 72)), (6, .ref (σ.2.1 73)), (7, .ref (σ.2.1 74)), (8, .ref (σ.2.1 19)), (9, .ref (σ.2.1 18))] 113 [] := by
  intro N9
  induction N9 with
  | zero => intro t V G n ns g0 gp gs cells slots _ _ h; exact absurd h (Nat.not_lt_zero _)
  | succ N9 ih =>
    intro t V G n ns g0 gp gs cells slots hrel h50 hN hce hse
    refine q_iload C dL_law_113 0 rfl ?_
    refine q_bipush C (nI 50) dL_law_115 (by decide) ?_
    refine q_icmp_geN C 1626 dL_law_117 (by decide) (by omega) (by omega) (fun c_117 => ?_) (fun c_117 => ?_)
    · skip
      refine q_iconst C (1) dL_law_1626 (by decide) ?_
      exact w_ret C hr hlocks hσ dL_law_1627 (by omega) (by omega)
    · skip
      have ht : t < 50 := by omega
      have kk : z_K σ p l e s m b below meth c (lw_Z below #[Value.ref b] s) cells slots t := by
        intro V9 G9 n9 ns9 g9 gp9 gs9 ce se h9 hc9 hs9
        refine q_iincN C (z_lv σ b (t + 1)) dL_law_1620 0 rfl (by decide) rfl ?_
        refine q_goto C 113 dL_law_1623 (by decide) ?_
        exact ih (t + 1) V9 G9 n9 ns9 g9 gp9 gs9 ce se h9 (by omega) (by omega) (by omega) (by omega)
      refine q_aload_n C dL_law_120 rfl 1 rfl ?_
      refine q_iconst C (nI 2) dL_law_121 (by decide) ?_
      refine q_iload C dL_law_122 0 rfl ?_
      refine q_imulN C dL_law_124  ?_
      refine w_cell C X (k := 2 * t) (by omega) gL_law_L_cell ⟨Nat.le_of_ble_eq_true rfl, Nat.le_of_ble_eq_true rfl⟩ dL_law_125 (Nat.le_of_ble_eq_true rfl) ⟨by show _ ≤ 658728; omega, by show _ ≤ 7125285; omega⟩ (fun x_125 => ?_)
      refine q_istore C [(11, .int x_125), (10, .int (nI t)), (0, .ref b), (1, .ref (σ.2.1 0)), (2, .ref (σ.2.1 69)), (3, .ref (σ.2.1 70)), (4, .ref (σ.2.1 71)), (5, .ref (σ.2.1 72)), (6, .ref (σ.2.1 73)), (7, .ref (σ.2.1 74)), (8, .ref (σ.2.1 19)), (9, .ref (σ.2.1 18))] dL_law_128 (by decide) rfl ?_
      refine q_aload_n C dL_law_130 rfl 2 rfl ?_
      refine q_iconst C (nI 2) dL_law_131 (by decide) ?_
      refine q_iload C dL_law_132 1 rfl ?_
      refine q_imulN C dL_law_134  ?_
      refine q_iconst C (nI 1) dL_law_135 (by decide) ?_
      refine q_iaddN C dL_law_136  ?_
      refine w_cell C X (k := (2 * t) + 1) (by omega) gL_law_L_cell ⟨Nat.le_of_ble_eq_true rfl, Nat.le_of_ble_eq_true rfl⟩ dL_law_137 (Nat.le_of_ble_eq_true rfl) ⟨by show _ ≤ 658728; omega, by show _ ≤ 7125285; omega⟩ (fun x_137 => ?_)
      refine q_istore C [(12, .int x_137), (11, .int x_125), (10, .int (nI t)), (0, .ref b), (1, .ref (σ.2.1 0)), (2, .ref (σ.2.1 69)), (3, .ref (σ.2.1 70)), (4, .ref (σ.2.1 71)), (5, .ref (σ.2.1 72)), (6, .ref (σ.2.1 73)), (7, .ref (σ.2.1 74)), (8, .ref (σ.2.1 19)), (9, .ref (σ.2.1 18))] dL_law_140 (by decide) rfl ?_
      refine q_iload C dL_law_142 1 rfl ?_
      refine q_bipush C (nI 20) dL_law_144 (by decide) ?_
      refine q_callSi C (As := [.int x_125, .int (nI 20)]) (rest := []) (kL_low l σ V G x_125 (n := 20) (by omega) (by omega)) 2 gL_law_L_low rfl rfl rfl (by decide +kernel) ⟨Nat.le_of_ble_eq_true rfl, Nat.le_of_ble_eq_true rfl⟩ dL_law_146 rfl (Nat.le_of_ble_eq_true rfl) ⟨by show _ ≤ 658728; omega, by show _ ≤ 7125285; omega⟩ (fun r_146 V_1 G_2 hq_146 => ?_)
      obtain ⟨⟨lo_146, hlo_146, rfl⟩, rfl, rfl⟩ := hq_146
      refine q_istore C [(13, .int (nI lo_146)), (12, .int x_137), (11, .int x_125), (10, .int (nI t)), (0, .ref b), (1, .ref (σ.2.1 0)), (2, .ref (σ.2.1 69)), (3, .ref (σ.2.1 70)), (4, .ref (σ.2.1 71)), (5, .ref (σ.2.1 72)), (6, .ref (σ.2.1 73)), (7, .ref (σ.2.1 74)), (8, .ref (σ.2.1 19)), (9, .ref (σ.2.1 18))] dL_law_149 (by decide) rfl ?_
      refine q_iload C dL_law_151 2 rfl ?_
      refine q_iconst C (nI 5) dL_law_153 (by decide) ?_
      refine q_ishr C dL_law_154 ?_
      refine q_iconst C (nI 5) dL_law_155 (by decide) ?_
      refine q_callSi C (As := [.int (x_125 >>> (nI 5 &&& 31)), .int (nI 5)]) (rest := []) (kL_low l σ V G ((x_125 >>> (nI 5 &&& 31))) (n := 5) (by omega) (by omega)) 2 gL_law_L_low rfl rfl rfl (by decide +kernel) ⟨Nat.le_of_ble_eq_true rfl, Nat.le_of_ble_eq_true rfl⟩ dL_law_156 rfl (Nat.le_of_ble_eq_true rfl) ⟨by show _ ≤ 658728; omega, by show _ ≤ 7125285; omega⟩ (fun r_156 V_3 G_4 hq_156 => ?_)
      obtain ⟨⟨lo_156, hlo_156, rfl⟩, rfl, rfl⟩ := hq_156
      refine q_istore C [(14, .int (nI lo_156)), (13, .int (nI lo_146)), (12, .int x_137), (11, .int x_125), (10, .int (nI t)), (0, .ref b), (1, .ref (σ.2.1 0)), (2, .ref (σ.2.1 69)), (3, .ref (σ.2.1 70)), (4, .ref (σ.2.1 71)), (5, .ref (σ.2.1 72)), (6, .ref (σ.2.1 73)), (7, .ref (σ.2.1 74)), (8, .ref (σ.2.1 19)), (9, .ref (σ.2.1 18))] dL_law_159 (by decide) rfl ?_
      have J_5 : ∀ (col : Nat) (hcol : col < 8), q_W σ p l e room_1 s m #[Value.ref b] below meth c (lw_Z below #[Value.ref b] s) 21 cells slots V G [(14, .int (nI lo_156)), (13, .int (nI lo_146)), (12, .int x_137), (10, .int (nI t)), (0, .ref b), (1, .ref (σ.2.1 0)), (2, .ref (σ.2.1 69)), (3, .ref (σ.2.1 70)), (4, .ref (σ.2.1 71)), (5, .ref (σ.2.1 72)), (6, .ref (σ.2.1 73)), (7, .ref (σ.2.1 74)), (8, .ref (σ.2.1 19)), (9, .ref (σ.2.1 18))] 187 [.int (nI col)] := by
        intro col hcol
        refine q_istore C [(15, .int (nI col)), (14, .int (nI lo_156)), (13, .int (nI lo_146)), (12, .int x_137), (10, .int (nI t)), (0, .ref b), (1, .ref (σ.2.1 0)), (2, .ref (σ.2.1 69)), (3, .ref (σ.2.1 70)), (4, .ref (σ.2.1 71)), (5, .ref (σ.2.1 72)), (6, .ref (σ.2.1 73)), (7, .ref (σ.2.1 74)), (8, .ref (σ.2.1 19)), (9, .ref (σ.2.1 18))] dL_law_187 (by decide) rfl ?_
        refine q_iload C dL_law_189 2 rfl ?_
        refine q_iconst C (nI 3) dL_law_191 (by decide) ?_
        refine q_icmp_geN C 264 dL_law_192 (by decide) (by omega) (by omega) (fun c_192 => ?_) (fun c_192 => ?_)
        · skip
          refine q_iload C dL_law_264 2 rfl ?_
          refine q_iconst C (nI 3) dL_law_266 (by decide) ?_
          refine q_icmp_neN C 384 dL_law_267 (by decide) (by omega) (by omega) (fun c_267 => ?_) (fun c_267 => ?_)
          · skip
            refine q_iload C dL_law_384 2 rfl ?_
            refine q_iconst C (nI 4) dL_law_386 (by decide) ?_
            refine q_icmp_neN C 444 dL_law_387 (by decide) (by omega) (by omega) (fun c_387 => ?_) (fun c_387 => ?_)
            · skip
              refine q_iload C dL_law_444 2 rfl ?_
              refine q_bipush C (nI 8) dL_law_446 (by decide) ?_
              refine q_icmp_geN C 606 dL_law_448 (by decide) (by omega) (by omega) (fun c_448 => ?_) (fun c_448 => ?_)
              · skip
                refine q_iload C dL_law_606 2 rfl ?_
                refine q_bipush C (nI 10) dL_law_608 (by decide) ?_
                refine q_icmp_geN C 739 dL_law_610 (by decide) (by omega) (by omega) (fun c_610 => ?_) (fun c_610 => ?_)
                · skip
                  refine q_iload C dL_law_739 2 rfl ?_
                  refine q_bipush C (nI 10) dL_law_741 (by decide) ?_
                  refine q_icmp_neN C 821 dL_law_743 (by decide) (by omega) (by omega) (fun c_743 => ?_) (fun c_743 => ?_)
                  · skip
                    refine q_iload C dL_law_821 2 rfl ?_
                    refine q_bipush C (nI 14) dL_law_823 (by decide) ?_
                    refine q_icmp_geN C 1060 dL_law_825 (by decide) (by omega) (by omega) (fun c_825 => ?_) (fun c_825 => ?_)
                    · skip
                      refine q_iload C dL_law_1060 2 rfl ?_
                      refine q_bipush C (nI 16) dL_law_1062 (by decide) ?_
                      refine q_icmp_geN C 1313 dL_law_1064 (by decide) (by omega) (by omega) (fun c_1064 => ?_) (fun c_1064 => ?_)
                      · skip
                        refine q_iload C dL_law_1313 2 rfl ?_
                        refine q_bipush C (nI 19) dL_law_1315 (by decide) ?_
                        refine q_icmp_geN C 1477 dL_law_1317 (by decide) (by omega) (by omega) (fun c_1317 => ?_) (fun c_1317 => ?_)
                        · skip
                          refine q_sub (lv' := [(15, .int (nI col)), (14, .int (nI lo_156)), (12, .int x_137), (10, .int (nI t)), (0, .ref b), (1, .ref (σ.2.1 0)), (2, .ref (σ.2.1 69)), (3, .ref (σ.2.1 70)), (4, .ref (σ.2.1 71)), (5, .ref (σ.2.1 72)), (6, .ref (σ.2.1 73)), (7, .ref (σ.2.1 74)), (8, .ref (σ.2.1 19)), (9, .ref (σ.2.1 18))]) [0, 1, 3, 4, 5, 6, 7, 8, 9, 10, 11, 12, 13, 14] rfl ?_
                          exact w_fair l hlf C (by omega) (by omega) hrel ht hlo_156 hcol _ kk
                        · skip
                          refine q_sub (lv' := [(15, .int (nI col)), (14, .int (nI lo_156)), (12, .int x_137), (10, .int (nI t)), (0, .ref b), (1, .ref (σ.2.1 0)), (2, .ref (σ.2.1 69)), (3, .ref (σ.2.1 70)), (4, .ref (σ.2.1 71)), (5, .ref (σ.2.1 72)), (6, .ref (σ.2.1 73)), (7, .ref (σ.2.1 74)), (8, .ref (σ.2.1 19)), (9, .ref (σ.2.1 18))]) [0, 1, 3, 4, 5, 6, 7, 8, 9, 10, 11, 12, 13, 14] rfl ?_
                          exact w_wish l hlf C (by omega) (by omega) hrel ht hlo_156 hcol _ kk
                      · skip
                        refine q_sub (lv' := [(15, .int (nI col)), (14, .int (nI lo_156)), (13, .int (nI lo_146)), (12, .int x_137), (10, .int (nI t)), (0, .ref b), (1, .ref (σ.2.1 0)), (2, .ref (σ.2.1 69)), (3, .ref (σ.2.1 70)), (4, .ref (σ.2.1 71)), (5, .ref (σ.2.1 72)), (6, .ref (σ.2.1 73)), (7, .ref (σ.2.1 74)), (8, .ref (σ.2.1 19)), (9, .ref (σ.2.1 18))]) [0, 1, 2, 3, 4, 5, 6, 7, 8, 9, 10, 11, 12, 13, 14] rfl ?_
                        exact w_belts l hlf C (by omega) (by omega) hrel ht hlo_156 hcol hlo_146 _ kk
                    · skip
                      refine q_sub (lv' := [(15, .int (nI col)), (14, .int (nI lo_156)), (12, .int x_137), (10, .int (nI t)), (0, .ref b), (1, .ref (σ.2.1 0)), (2, .ref (σ.2.1 69)), (3, .ref (σ.2.1 70)), (4, .ref (σ.2.1 71)), (5, .ref (σ.2.1 72)), (6, .ref (σ.2.1 73)), (7, .ref (σ.2.1 74)), (8, .ref (σ.2.1 19)), (9, .ref (σ.2.1 18))]) [0, 1, 3, 4, 5, 6, 7, 8, 9, 10, 11, 12, 13, 14] rfl ?_
                      exact w_weave l hlf C (by omega) (by omega) hrel ht hlo_156 hcol _ kk
                  · skip
                    refine q_sub (lv' := [(15, .int (nI col)), (14, .int (nI lo_156)), (12, .int x_137), (10, .int (nI t)), (0, .ref b), (1, .ref (σ.2.1 0)), (2, .ref (σ.2.1 69)), (3, .ref (σ.2.1 70)), (4, .ref (σ.2.1 71)), (5, .ref (σ.2.1 72)), (6, .ref (σ.2.1 73)), (7, .ref (σ.2.1 74)), (8, .ref (σ.2.1 19)), (9, .ref (σ.2.1 18))]) [0, 1, 3, 4, 5, 6, 7, 8, 9, 10, 11, 12, 13, 14] rfl ?_
                    exact w_sign l hlf C (by omega) (by omega) hrel ht hlo_156 hcol _ kk
                · skip
                  refine q_sub (lv' := [(15, .int (nI col)), (14, .int (nI lo_156)), (12, .int x_137), (10, .int (nI t)), (0, .ref b), (1, .ref (σ.2.1 0)), (2, .ref (σ.2.1 69)), (3, .ref (σ.2.1 70)), (4, .ref (σ.2.1 71)), (5, .ref (σ.2.1 72)), (6, .ref (σ.2.1 73)), (7, .ref (σ.2.1 74)), (8, .ref (σ.2.1 19)), (9, .ref (σ.2.1 18))]) [0, 1, 3, 4, 5, 6, 7, 8, 9, 10, 11, 12, 13, 14] rfl ?_
                  exact w_pattern l hlf C (by omega) (by omega) hrel ht hlo_156 hcol _ kk
              · skip
                refine q_sub (lv' := [(15, .int (nI col)), (14, .int (nI lo_156)), (12, .int x_137), (10, .int (nI t)), (0, .ref b), (1, .ref (σ.2.1 0)), (2, .ref (σ.2.1 69)), (3, .ref (σ.2.1 70)), (4, .ref (σ.2.1 71)), (5, .ref (σ.2.1 72)), (6, .ref (σ.2.1 73)), (7, .ref (σ.2.1 74)), (8, .ref (σ.2.1 19)), (9, .ref (σ.2.1 18))]) [0, 1, 3, 4, 5, 6, 7, 8, 9, 10, 11, 12, 13, 14] rfl ?_
                exact w_beads l hlf C (by omega) (by omega) hrel ht hlo_156 hcol _ kk
            · skip
              refine q_sub (lv' := [(15, .int (nI col)), (14, .int (nI lo_156)), (12, .int x_137), (10, .int (nI t)), (0, .ref b), (1, .ref (σ.2.1 0)), (2, .ref (σ.2.1 69)), (3, .ref (σ.2.1 70)), (4, .ref (σ.2.1 71)), (5, .ref (σ.2.1 72)), (6, .ref (σ.2.1 73)), (7, .ref (σ.2.1 74)), (8, .ref (σ.2.1 19)), (9, .ref (σ.2.1 18))]) [0, 1, 3, 4, 5, 6, 7, 8, 9, 10, 11, 12, 13, 14] rfl ?_
              exact w_draft l hlf C (by omega) (by omega) hrel ht hlo_156 hcol _ kk
          · skip
            refine q_sub (lv' := [(15, .int (nI col)), (14, .int (nI lo_156)), (12, .int x_137), (10, .int (nI t)), (0, .ref b), (1, .ref (σ.2.1 0)), (2, .ref (σ.2.1 69)), (3, .ref (σ.2.1 70)), (4, .ref (σ.2.1 71)), (5, .ref (σ.2.1 72)), (6, .ref (σ.2.1 73)), (7, .ref (σ.2.1 74)), (8, .ref (σ.2.1 19)), (9, .ref (σ.2.1 18))]) [0, 1, 3, 4, 5, 6, 7, 8, 9, 10, 11, 12, 13, 14] rfl ?_
            exact w_lay l hlf C (by omega) (by omega) hrel ht hlo_156 hcol _ kk
        · skip
          refine q_sub (lv' := [(15, .int (nI col)), (14, .int (nI lo_156)), (12, .int x_137), (10, .int (nI t)), (0, .ref b), (1, .ref (σ.2.1 0)), (2, .ref (σ.2.1 69)), (3, .ref (σ.2.1 70)), (4, .ref (σ.2.1 71)), (5, .ref (σ.2.1 72)), (6, .ref (σ.2.1 73)), (7, .ref (σ.2.1 74)), (8, .ref (σ.2.1 19)), (9, .ref (σ.2.1 18))]) [0, 1, 3, 4, 5, 6, 7, 8, 9, 10, 11, 12, 13, 14] rfl ?_
          exact w_bring l hlf C (by omega) (by omega) hrel ht hlo_156 hcol _ kk
      refine q_iload C dL_law_161 3 rfl ?_
      refine q_bipush C (nI 8) dL_law_163 (by decide) ?_
      refine q_ishr C dL_law_165 ?_
      refine q_iload C dL_law_166 3 rfl ?_
      refine q_bipush C (nI 12) dL_law_168 (by decide) ?_
      refine q_ishr C dL_law_170 ?_
      refine q_iconst C (nI 2) dL_law_171 (by decide) ?_
      refine q_callSi C (As := [.int (x_125 >>> (nI 12 &&& 31)), .int (nI 2)]) (rest := [.int (x_125 >>> (nI 8 &&& 31))]) (kL_low l σ V G ((x_125 >>> (nI 12 &&& 31))) (n := 2) (by omega) (by omega)) 2 gL_law_L_low rfl rfl rfl (by decide +kernel) ⟨Nat.le_of_ble_eq_true rfl, Nat.le_of_ble_eq_true rfl⟩ dL_law_172 rfl (Nat.le_of_ble_eq_true rfl) ⟨by show _ ≤ 658728; omega, by show _ ≤ 7125285; omega⟩ (fun r_172 V_6 G_7 hq_172 => ?_)
      obtain ⟨⟨lo_172, hlo_172, rfl⟩, rfl, rfl⟩ := hq_172
      refine q_if_neN C 183 dL_law_175 (by decide) (by omega) (fun c_175 => ?_) (fun c_175 => ?_)
      · skip
        refine q_iconst C (nI 2) dL_law_183 (by decide) ?_
        refine q_callSi C (As := [.int (x_125 >>> (nI 8 &&& 31)), .int (nI 2)]) (rest := []) (kL_low l σ V G ((x_125 >>> (nI 8 &&& 31))) (n := 2) (by omega) (by omega)) 2 gL_law_L_low rfl rfl rfl (by decide +kernel) ⟨Nat.le_of_ble_eq_true rfl, Nat.le_of_ble_eq_true rfl⟩ dL_law_184 rfl (Nat.le_of_ble_eq_true rfl) ⟨by show _ ≤ 658728; omega, by show _ ≤ 7125285; omega⟩ (fun r_184 V_8 G_9 hq_184 => ?_)
        obtain ⟨⟨lo_184, hlo_184, rfl⟩, rfl, rfl⟩ := hq_184
        refine q_sub (lv' := [(14, .int (nI lo_156)), (13, .int (nI lo_146)), (12, .int x_137), (10, .int (nI t)), (0, .ref b), (1, .ref (σ.2.1 0)), (2, .ref (σ.2.1 69)), (3, .ref (σ.2.1 70)), (4, .ref (σ.2.1 71)), (5, .ref (σ.2.1 72)), (6, .ref (σ.2.1 73)), (7, .ref (σ.2.1 74)), (8, .ref (σ.2.1 19)), (9, .ref (σ.2.1 18))]) [0, 1, 2, 4, 5, 6, 7, 8, 9, 10, 11, 12, 13, 14] rfl ?_
        exact J_5 _ (by omega)
      · skip
        refine q_bipush C (nI 8) dL_law_178 (by decide) ?_
        refine q_goto C 184 dL_law_180 (by decide) ?_
        refine q_callSi C (As := [.int (x_125 >>> (nI 8 &&& 31)), .int (nI 8)]) (rest := []) (kL_low l σ V G ((x_125 >>> (nI 8 &&& 31))) (n := 8) (by omega) (by omega)) 2 gL_law_L_low rfl rfl rfl (by decide +kernel) ⟨Nat.le_of_ble_eq_true rfl, Nat.le_of_ble_eq_true rfl⟩ dL_law_184 rfl (Nat.le_of_ble_eq_true rfl) ⟨by show _ ≤ 658728; omega, by show _ ≤ 7125285; omega⟩ (fun r_184 V_10 G_11 hq_184 => ?_)
        obtain ⟨⟨lo_184, hlo_184, rfl⟩, rfl, rfl⟩ := hq_184
        refine q_sub (lv' := [(14, .int (nI lo_156)), (13, .int (nI lo_146)), (12, .int x_137), (10, .int (nI t)), (0, .ref b), (1, .ref (σ.2.1 0)), (2, .ref (σ.2.1 69)), (3, .ref (σ.2.1 70)), (4, .ref (σ.2.1 71)), (5, .ref (σ.2.1 72)), (6, .ref (σ.2.1 73)), (7, .ref (σ.2.1 74)), (8, .ref (σ.2.1 19)), (9, .ref (σ.2.1 18))]) [0, 1, 2, 4, 5, 6, 7, 8, 9, 10, 11, 12, 13, 14] rfl ?_
        exact J_5 _ (by omega)
