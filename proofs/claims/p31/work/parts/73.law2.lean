set_option maxHeartbeats 1000000 in
set_option maxRecDepth 100000 in
/-- beads are brought -/
theorem w_bring {σ : q_E} {p : Program} {e : Env} {s : State} {m : MethodId} {below : List Frame} {meth : Method} {c : Code} {Q : State → Prop} {b : Nat} (l : Launch) (hlf : l.stackTraces = false) (C : q_C σ p s m #[Value.ref b] c cL_law 21 RL wsL_law) {cells slots : Nat} (hce : cells + 960 ≤ 658728) (hse : slots + 5760 ≤ 7125285) {V : q_V} {G : q_G} {t n ns g0 : Nat} {gp gs : Nat → Nat} (hrel : zRel V G (30 * t) n ns g0 gp gs) (ht : t < 50) {wh col : Nat} (hwh : wh < 5) (hcol : col < 8) (y : Int32) (kk : z_K σ p l e s m b below meth c Q cells slots t) : q_W σ p l e room_1 s m #[Value.ref b] below meth c Q 21 cells slots V G [(15, .int (nI col)), (14, .int (nI wh)), (12, .int y), (10, .int (nI t)), (0, .ref b), (1, .ref (σ.2.1 0)), (2, .ref (σ.2.1 69)), (3, .ref (σ.2.1 70)), (4, .ref (σ.2.1 71)), (5, .ref (σ.2.1 72)), (6, .ref (σ.2.1 73)), (7, .ref (σ.2.1 74)), (8, .ref (σ.2.1 19)), (9, .ref (σ.2.1 18))] 195 [] := by
  obtain ⟨e9, m9, m9b, m9c⟩ := hrel.1 wh col (by omega) hcol
  refine q_iconst C (nI 1) dL_law_195 (by decide) ?_
  refine q_iload C dL_law_196 2 rfl ?_
  refine q_bipush C (nI 30) dL_law_198 (by decide) ?_
  refine q_callSi C (As := [.int y, .int (nI 30)]) (rest := [.int (nI 1)]) (kL_low l σ V G y (n := 30) (by omega) (by omega)) 2 gL_law_L_low rfl rfl rfl (by decide +kernel) ⟨Nat.le_of_ble_eq_true rfl, Nat.le_of_ble_eq_true rfl⟩ dL_law_200 rfl (Nat.le_of_ble_eq_true rfl) ⟨by show _ ≤ 658728; omega, by show _ ≤ 7125285; omega⟩ (fun r_200 V_1 G_2 hq_200 => ?_)
  obtain ⟨⟨lo_200, hlo_200, rfl⟩, rfl, rfl⟩ := hq_200
  refine q_iaddN C dL_law_203  ?_
  refine q_istore C [(16, .int (nI (1 + lo_200))), (15, .int (nI col)), (14, .int (nI wh)), (12, .int y), (10, .int (nI t)), (0, .ref b), (1, .ref (σ.2.1 0)), (2, .ref (σ.2.1 69)), (3, .ref (σ.2.1 70)), (4, .ref (σ.2.1 71)), (5, .ref (σ.2.1 72)), (6, .ref (σ.2.1 73)), (7, .ref (σ.2.1 74)), (8, .ref (σ.2.1 19)), (9, .ref (σ.2.1 18))] dL_law_204 (by decide) rfl ?_
  refine q_aload C dL_law_206 10 rfl ?_
  refine q_bipush C (nI 8) dL_law_208 (by decide) ?_
  refine q_iload C dL_law_210 2 rfl ?_
  refine q_imulN C dL_law_212  ?_
  refine q_iload C dL_law_213 1 rfl ?_
  refine q_iaddN C dL_law_215  ?_
  refine q_dup2 C dL_law_216 rfl rfl ?_
  refine q_ialdN C (k := 72) (n := 64) ⟨by decide, by decide, by decide⟩ (by omega) (by decide) dL_law_217 ?_
  refine q_iload C dL_law_218 0 rfl ?_
  refine q_iadd C dL_law_220 ?_
  refine q_iastN C (k := 72) (n := 64) ⟨by decide, by decide, by decide⟩ (by omega) (by decide) dL_law_221 ?_
  refine q_aload C dL_law_222 12 rfl ?_
  refine q_bipush C (nI 7) dL_law_224 (by decide) ?_
  refine q_iload C dL_law_226 1 rfl ?_
  refine q_iaddN C dL_law_228  ?_
  refine q_dup2 C dL_law_229 rfl rfl ?_
  refine q_ialdN C (k := 74) (n := 15) ⟨by decide, by decide, by decide⟩ (by omega) (by decide) dL_law_230 ?_
  refine q_stk (st' := [.int (V 74 (7 + col)), .int (nI (7 + col)), .ref (σ.2.1 74)]) (congrArg (fun z => Value.int z :: [.int (nI (7 + col)), .ref (σ.2.1 74)]) (q_up_ne _ _ (by omega))) ?_
  refine q_iload C dL_law_231 0 rfl ?_
  refine q_iadd C dL_law_233 ?_
  refine q_iastN C (k := 74) (n := 15) ⟨by decide, by decide, by decide⟩ (by omega) (by decide) dL_law_234 ?_
  refine q_aload_n C dL_law_235 rfl 6 rfl ?_
  refine q_iload C dL_law_236 2 rfl ?_
  refine q_iload C dL_law_238 1 rfl ?_
  refine q_iload C dL_law_240 0 rfl ?_
  refine q_callVi C (As := [.int (nI wh), .int (nI col), .int (nI (1 + lo_200))]) (rest := []) (k := 0) (by omega) q_enBP rfl rfl (zM_bring l σ (q_up (q_up V 72 ((8 * wh) + col) (((V 72 ((8 * wh) + col)) + nI (1 + lo_200)))) 74 (7 + col) (((V 74 (7 + col)) + nI (1 + lo_200)))) G hlf (v := V (20 + wh) col) (v3 := V 3 col) (wh := wh) (col := col) (md := 1 + lo_200) ((q_up_ne _ _ (by omega)).trans (q_up_ne _ _ (by omega))) ((q_up_ne _ _ (by omega)).trans (q_up_ne _ _ (by omega))) m9c (by omega) hwh hcol (by omega) (by omega)) 3 gL_law_X2_bring rfl rfl rfl (by decide +kernel) ⟨Nat.le_of_ble_eq_true rfl, Nat.le_of_ble_eq_true rfl⟩ dL_law_242 rfl (Nat.le_of_ble_eq_true rfl) ⟨by show _ ≤ 658728; omega, by show _ ≤ 7125285; omega⟩ (fun r_242 V_3 G_4 hq_242 => ?_)
  obtain ⟨rfl, rfl, rfl⟩ := hq_242
  refine q_aload C dL_law_245 10 rfl ?_
  refine q_bipush C (nI 8) dL_law_247 (by decide) ?_
  refine q_iload C dL_law_249 2 rfl ?_
  refine q_imulN C dL_law_251  ?_
  refine q_iload C dL_law_252 1 rfl ?_
  refine q_iaddN C dL_law_254  ?_
  refine q_ialdN C (k := 72) (n := 64) ⟨by decide, by decide, by decide⟩ (by omega) (by decide) dL_law_255 ?_
  refine q_stk (st' := [.int ((V 72 ((8 * wh) + col)) + nI (1 + lo_200)), .int (V (20 + wh) col + nI (1 + lo_200))]) (congrArg (fun z => Value.int z :: [.int (V (20 + wh) col + nI (1 + lo_200))]) ((q_up_ne _ _ (by omega)).trans ((q_up_ne _ _ (by omega)).trans ((q_up_ne _ _ (by omega)).trans (q_up_self _ _ _ _))))) ?_
  refine q_icmp_eq C 261 dL_law_256 (by decide) (fun c_256 => ?_) (fun c_256 => absurd c_256 (by exact fun z => z (by rw [e9])))
  refine q_goto C 1572 dL_law_261 (by decide) ?_
  refine q_sub (lv' := [(15, .int (nI col)), (10, .int (nI t)), (0, .ref b), (1, .ref (σ.2.1 0)), (2, .ref (σ.2.1 69)), (3, .ref (σ.2.1 70)), (4, .ref (σ.2.1 71)), (5, .ref (σ.2.1 72)), (6, .ref (σ.2.1 73)), (7, .ref (σ.2.1 74)), (8, .ref (σ.2.1 19)), (9, .ref (σ.2.1 18))]) [1, 4, 5, 6, 7, 8, 9, 10, 11, 12, 13, 14] rfl ?_
  exact w_tail l hlf C hce hse (z_bring hrel (by omega) hwh hcol (by omega)) (by omega) ht hcol (by omega) (by omega) kk
set_option maxHeartbeats 1000000 in
set_option maxRecDepth 100000 in
/-- beads are laid -/
theorem w_lay {σ : q_E} {p : Program} {e : Env} {s : State} {m : MethodId} {below : List Frame} {meth : Method} {c : Code} {Q : State → Prop} {b : Nat} (l : Launch) (hlf : l.stackTraces = false) (C : q_C σ p s m #[Value.ref b] c cL_law 21 RL wsL_law) {cells slots : Nat} (hce : cells + 960 ≤ 658728) (hse : slots + 5760 ≤ 7125285) {V : q_V} {G : q_G} {t n ns g0 : Nat} {gp gs : Nat → Nat} (hrel : zRel V G (30 * t) n ns g0 gp gs) (ht : t < 50) {wh col : Nat} (hwh : wh < 5) (hcol : col < 8) (y : Int32) (kk : z_K σ p l e s m b below meth c Q cells slots t) : q_W σ p l e room_1 s m #[Value.ref b] below meth c Q 21 cells slots V G [(15, .int (nI col)), (14, .int (nI wh)), (12, .int y), (10, .int (nI t)), (0, .ref b), (1, .ref (σ.2.1 0)), (2, .ref (σ.2.1 69)), (3, .ref (σ.2.1 70)), (4, .ref (σ.2.1 71)), (5, .ref (σ.2.1 72)), (6, .ref (σ.2.1 73)), (7, .ref (σ.2.1 74)), (8, .ref (σ.2.1 19)), (9, .ref (σ.2.1 18))] 270 [] := by
  obtain ⟨e9, m9, m9b, m9c⟩ := hrel.1 wh col (by omega) hcol
  obtain ⟨f9, ⟨m8, m8b, m8c⟩, -, -⟩ := hrel.2.1 col hcol
  refine q_iload C dL_law_270 2 rfl ?_
  refine q_bipush C (nI 41) dL_law_272 (by decide) ?_
  refine q_callSi C (As := [.int y, .int (nI 41)]) (rest := []) (kL_low l σ V G y (n := 41) (by omega) (by omega)) 2 gL_law_L_low rfl rfl rfl (by decide +kernel) ⟨Nat.le_of_ble_eq_true rfl, Nat.le_of_ble_eq_true rfl⟩ dL_law_274 rfl (Nat.le_of_ble_eq_true rfl) ⟨by show _ ≤ 658728; omega, by show _ ≤ 7125285; omega⟩ (fun r_274 V_1 G_2 hq_274 => ?_)
  obtain ⟨⟨lo_274, hlo_274, rfl⟩, rfl, rfl⟩ := hq_274
  refine q_bipush C (nI 20) dL_law_277 (by decide) ?_
  refine q_isub C dL_law_279 ?_
  refine q_istore C [(16, .int (nI lo_274 - nI 20)), (15, .int (nI col)), (14, .int (nI wh)), (12, .int y), (10, .int (nI t)), (0, .ref b), (1, .ref (σ.2.1 0)), (2, .ref (σ.2.1 69)), (3, .ref (σ.2.1 70)), (4, .ref (σ.2.1 71)), (5, .ref (σ.2.1 72)), (6, .ref (σ.2.1 73)), (7, .ref (σ.2.1 74)), (8, .ref (σ.2.1 19)), (9, .ref (σ.2.1 18))] dL_law_280 (by decide) rfl ?_
  refine q_aload C dL_law_282 10 rfl ?_
  refine q_bipush C (nI 8) dL_law_284 (by decide) ?_
  refine q_iload C dL_law_286 2 rfl ?_
  refine q_imulN C dL_law_288  ?_
  refine q_iload C dL_law_289 1 rfl ?_
  refine q_iaddN C dL_law_291  ?_
  refine q_ialdN C (k := 72) (n := 64) ⟨by decide, by decide, by decide⟩ (by omega) (by decide) dL_law_292 ?_
  refine q_iload C dL_law_293 0 rfl ?_
  refine q_icmp_lt C 312 dL_law_295 (by decide) (fun c_295 => ?_) (fun c_295 => ?_)
  · skip
    refine q_aload_n C dL_law_312 rfl 6 rfl ?_
    refine q_iconst C (nI 1) dL_law_313 (by decide) ?_
    refine q_iload C dL_law_314 2 rfl ?_
    refine q_iload C dL_law_316 1 rfl ?_
    refine q_iload C dL_law_318 0 rfl ?_
    refine q_callWi C (As := [.ref (σ.2.1 0), .int (nI 1), .int (nI wh), .int (nI col), .int (nI lo_274 - nI 20)]) (rest := []) (zM_noLay l σ V G hlf (wh := wh) (col := col) (lo := lo_274) (m := m9) (m2 := m8) m9c m8c (by omega) hwh hcol hlo_274 (by first | exact Or.inl (by rw [← m9c, ← e9]; exact c_295) | exact Or.inr (by rw [← m8c, ← f9]; exact c_309))) 5 gL_law_L_refused rfl rfl rfl (by decide +kernel) ⟨Nat.le_of_ble_eq_true rfl, Nat.le_of_ble_eq_true rfl⟩ dL_law_320 rfl (Nat.le_of_ble_eq_true rfl) ⟨by show _ ≤ 658728; omega, by show _ ≤ 7125285; omega⟩ (fun r_320 V_3 G_4 hq_320 => ?_)
    obtain ⟨rfl, rfl, rfl⟩ := hq_320
    refine q_iconst C (nI 3) dL_law_323 (by decide) ?_
    refine q_icmp_eqN C 1620 dL_law_324 (by decide) (by omega) (by omega) (fun _ => ?_) (fun c_324 => absurd c_324 (by omega))
    refine q_sub (lv' := [(10, .int (nI t)), (0, .ref b), (1, .ref (σ.2.1 0)), (2, .ref (σ.2.1 69)), (3, .ref (σ.2.1 70)), (4, .ref (σ.2.1 71)), (5, .ref (σ.2.1 72)), (6, .ref (σ.2.1 73)), (7, .ref (σ.2.1 74)), (8, .ref (σ.2.1 19)), (9, .ref (σ.2.1 18))]) [4, 5, 6, 7, 8, 9, 10, 11, 12, 13, 14] rfl ?_
    exact kk _ _ _ _ _ _ _ _ _ (zRel_mono hrel (by omega)) (by omega) (by omega)
  · skip
    have c_295x := c_295
    refine q_aload C dL_law_298 10 rfl ?_
    refine q_bipush C (nI 56) dL_law_300 (by decide) ?_
    refine q_iload C dL_law_302 1 rfl ?_
    refine q_iaddN C dL_law_304  ?_
    refine q_ialdN C (k := 72) (n := 64) ⟨by decide, by decide, by decide⟩ (by omega) (by decide) dL_law_305 ?_
    refine q_iload C dL_law_306 0 rfl ?_
    refine q_iadd C dL_law_308 ?_
    refine q_if_ge C 329 dL_law_309 (by decide) (fun c_309 => ?_) (fun c_309 => ?_)
    · skip
      refine q_aload C dL_law_329 10 rfl ?_
      refine q_bipush C (nI 8) dL_law_331 (by decide) ?_
      refine q_iload C dL_law_333 2 rfl ?_
      refine q_imulN C dL_law_335  ?_
      refine q_iload C dL_law_336 1 rfl ?_
      refine q_iaddN C dL_law_338  ?_
      refine q_dup2 C dL_law_339 rfl rfl ?_
      refine q_ialdN C (k := 72) (n := 64) ⟨by decide, by decide, by decide⟩ (by omega) (by decide) dL_law_340 ?_
      refine q_iload C dL_law_341 0 rfl ?_
      refine q_isub C dL_law_343 ?_
      refine q_iastN C (k := 72) (n := 64) ⟨by decide, by decide, by decide⟩ (by omega) (by decide) dL_law_344 ?_
      refine q_aload C dL_law_345 10 rfl ?_
      refine q_bipush C (nI 56) dL_law_347 (by decide) ?_
      refine q_iload C dL_law_349 1 rfl ?_
      refine q_iaddN C dL_law_351  ?_
      refine q_dup2 C dL_law_352 rfl rfl ?_
      refine q_ialdN C (k := 72) (n := 64) ⟨by decide, by decide, by decide⟩ (by omega) (by decide) dL_law_353 ?_
      refine q_stk (st' := [.int (V 72 (56 + col)), .int (nI (56 + col)), .ref (σ.2.1 72)]) (congrArg (fun z => Value.int z :: [.int (nI (56 + col)), .ref (σ.2.1 72)]) (q_up_ne _ _ (by omega))) ?_
      refine q_iload C dL_law_354 0 rfl ?_
      refine q_iadd C dL_law_356 ?_
      refine q_iastN C (k := 72) (n := 64) ⟨by decide, by decide, by decide⟩ (by omega) (by decide) dL_law_357 ?_
      refine q_aload_n C dL_law_358 rfl 6 rfl ?_
      refine q_iload C dL_law_359 2 rfl ?_
      refine q_iload C dL_law_361 1 rfl ?_
      refine q_iload C dL_law_363 0 rfl ?_
      refine q_callVi C (As := [.int (nI wh), .int (nI col), .int (nI lo_274 - nI 20)]) (rest := []) (k := 0) (by omega) q_enBP rfl rfl (zM_lay l σ (q_up (q_up V 72 ((8 * wh) + col) (((V 72 ((8 * wh) + col)) - (nI lo_274 - nI 20)))) 72 (56 + col) (((V 72 (56 + col)) + (nI lo_274 - nI 20)))) G hlf (v := V (20 + wh) col) (v2 := V 2 col) (wh := wh) (col := col) (lo := lo_274) ((q_up_ne _ _ (by omega)).trans (q_up_ne _ _ (by omega))) ((q_up_ne _ _ (by omega)).trans (q_up_ne _ _ (by omega))) m9c m8c (by omega) hwh hcol hlo_274 (by rw [← m9c, ← e9]; exact c_295x) (by rw [← m8c, ← f9]; exact c_309)) 3 gL_law_X2_lay rfl rfl rfl (by decide +kernel) ⟨Nat.le_of_ble_eq_true rfl, Nat.le_of_ble_eq_true rfl⟩ dL_law_365 rfl (Nat.le_of_ble_eq_true rfl) ⟨by show _ ≤ 658728; omega, by show _ ≤ 7125285; omega⟩ (fun r_365 V_5 G_6 hq_365 => ?_)
      obtain ⟨rfl, rfl, rfl⟩ := hq_365
      refine q_aload C dL_law_368 10 rfl ?_
      refine q_bipush C (nI 56) dL_law_370 (by decide) ?_
      refine q_iload C dL_law_372 1 rfl ?_
      refine q_iaddN C dL_law_374  ?_
      refine q_ialdN C (k := 72) (n := 64) ⟨by decide, by decide, by decide⟩ (by omega) (by decide) dL_law_375 ?_
      refine q_stk (st' := [.int ((V 72 (56 + col)) + (nI lo_274 - nI 20)), .int (V 2 col + (nI lo_274 - nI 20))]) (congrArg (fun z => Value.int z :: [.int (V 2 col + (nI lo_274 - nI 20))]) ((q_up_ne _ _ (by omega)).trans ((q_up_ne _ _ (by omega)).trans (q_up_self _ _ _ _)))) ?_
      refine q_icmp_eq C 381 dL_law_376 (by decide) (fun c_376 => ?_) (fun c_376 => absurd c_376 (by exact fun z => z (by rw [f9])))
      refine q_goto C 1572 dL_law_381 (by decide) ?_
      refine q_sub (lv' := [(15, .int (nI col)), (10, .int (nI t)), (0, .ref b), (1, .ref (σ.2.1 0)), (2, .ref (σ.2.1 69)), (3, .ref (σ.2.1 70)), (4, .ref (σ.2.1 71)), (5, .ref (σ.2.1 72)), (6, .ref (σ.2.1 73)), (7, .ref (σ.2.1 74)), (8, .ref (σ.2.1 19)), (9, .ref (σ.2.1 18))]) [1, 4, 5, 6, 7, 8, 9, 10, 11, 12, 13, 14] rfl ?_
      exact w_tail l hlf C hce hse (z_lay hrel (by omega) hwh hcol hlo_274 c_295x c_309) (by omega) ht hcol (by omega) (by omega) kk
    · skip
      refine q_aload_n C dL_law_312 rfl 6 rfl ?_
      refine q_iconst C (nI 1) dL_law_313 (by decide) ?_
      refine q_iload C dL_law_314 2 rfl ?_
      refine q_iload C dL_law_316 1 rfl ?_
      refine q_iload C dL_law_318 0 rfl ?_
      refine q_callWi C (As := [.ref (σ.2.1 0), .int (nI 1), .int (nI wh), .int (nI col), .int (nI lo_274 - nI 20)]) (rest := []) (zM_noLay l σ V G hlf (wh := wh) (col := col) (lo := lo_274) (m := m9) (m2 := m8) m9c m8c (by omega) hwh hcol hlo_274 (by first | exact Or.inl (by rw [← m9c, ← e9]; exact c_295) | exact Or.inr (by rw [← m8c, ← f9]; exact c_309))) 5 gL_law_L_refused rfl rfl rfl (by decide +kernel) ⟨Nat.le_of_ble_eq_true rfl, Nat.le_of_ble_eq_true rfl⟩ dL_law_320 rfl (Nat.le_of_ble_eq_true rfl) ⟨by show _ ≤ 658728; omega, by show _ ≤ 7125285; omega⟩ (fun r_320 V_7 G_8 hq_320 => ?_)
      obtain ⟨rfl, rfl, rfl⟩ := hq_320
      refine q_iconst C (nI 3) dL_law_323 (by decide) ?_
      refine q_icmp_eqN C 1620 dL_law_324 (by decide) (by omega) (by omega) (fun _ => ?_) (fun c_324 => absurd c_324 (by omega))
      refine q_sub (lv' := [(10, .int (nI t)), (0, .ref b), (1, .ref (σ.2.1 0)), (2, .ref (σ.2.1 69)), (3, .ref (σ.2.1 70)), (4, .ref (σ.2.1 71)), (5, .ref (σ.2.1 72)), (6, .ref (σ.2.1 73)), (7, .ref (σ.2.1 74)), (8, .ref (σ.2.1 19)), (9, .ref (σ.2.1 18))]) [4, 5, 6, 7, 8, 9, 10, 11, 12, 13, 14] rfl ?_
      exact kk _ _ _ _ _ _ _ _ _ (zRel_mono hrel (by omega)) (by omega) (by omega)
set_option maxHeartbeats 1000000 in
set_option maxRecDepth 100000 in
/-- a draft is begun -/
theorem w_draft {σ : q_E} {p : Program} {e : Env} {s : State} {m : MethodId} {below : List Frame} {meth : Method} {c : Code} {Q : State → Prop} {b : Nat} (l : Launch) (hlf : l.stackTraces = false) (C : q_C σ p s m #[Value.ref b] c cL_law 21 RL wsL_law) {cells slots : Nat} (hce : cells + 960 ≤ 658728) (hse : slots + 5760 ≤ 7125285) {V : q_V} {G : q_G} {t n ns g0 : Nat} {gp gs : Nat → Nat} (hrel : zRel V G (30 * t) n ns g0 gp gs) (ht : t < 50) {wh col : Nat} (hwh : wh < 5) (hcol : col < 8) (y : Int32) (kk : z_K σ p l e s m b below meth c Q cells slots t) : q_W σ p l e room_1 s m #[Value.ref b] below meth c Q 21 cells slots V G [(15, .int (nI col)), (14, .int (nI wh)), (12, .int y), (10, .int (nI t)), (0, .ref b), (1, .ref (σ.2.1 0)), (2, .ref (σ.2.1 69)), (3, .ref (σ.2.1 70)), (4, .ref (σ.2.1 71)), (5, .ref (σ.2.1 72)), (6, .ref (σ.2.1 73)), (7, .ref (σ.2.1 74)), (8, .ref (σ.2.1 19)), (9, .ref (σ.2.1 18))] 390 [] := by
  refine q_iconst C (nI 1) dL_law_390 (by decide) ?_
  refine q_iload C dL_law_391 2 rfl ?_
  refine q_iconst C (nI 3) dL_law_393 (by decide) ?_
  refine q_callSi C (As := [.int y, .int (nI 3)]) (rest := [.int (nI 1)]) (kL_low l σ V G y (n := 3) (by omega) (by omega)) 2 gL_law_L_low rfl rfl rfl (by decide +kernel) ⟨Nat.le_of_ble_eq_true rfl, Nat.le_of_ble_eq_true rfl⟩ dL_law_394 rfl (Nat.le_of_ble_eq_true rfl) ⟨by show _ ≤ 658728; omega, by show _ ≤ 7125285; omega⟩ (fun r_394 V_1 G_2 hq_394 => ?_)
  obtain ⟨⟨lo_394, hlo_394, rfl⟩, rfl, rfl⟩ := hq_394
  refine q_iaddN C dL_law_397  ?_
  refine q_istore C [(16, .int (nI (1 + lo_394))), (15, .int (nI col)), (14, .int (nI wh)), (12, .int y), (10, .int (nI t)), (0, .ref b), (1, .ref (σ.2.1 0)), (2, .ref (σ.2.1 69)), (3, .ref (σ.2.1 70)), (4, .ref (σ.2.1 71)), (5, .ref (σ.2.1 72)), (6, .ref (σ.2.1 73)), (7, .ref (σ.2.1 74)), (8, .ref (σ.2.1 19)), (9, .ref (σ.2.1 18))] dL_law_398 (by decide) rfl ?_
  refine q_iconst C (nI 1) dL_law_400 (by decide) ?_
  refine q_iload C dL_law_401 3 rfl ?_
  refine q_iconst C (nI 2) dL_law_403 (by decide) ?_
  refine q_ishr C dL_law_404 ?_
  refine q_iconst C (nI 3) dL_law_405 (by decide) ?_
  refine q_callSi C (As := [.int (y >>> (nI 2 &&& 31)), .int (nI 3)]) (rest := [.int (nI 1)]) (kL_low l σ V G ((y >>> (nI 2 &&& 31))) (n := 3) (by omega) (by omega)) 2 gL_law_L_low rfl rfl rfl (by decide +kernel) ⟨Nat.le_of_ble_eq_true rfl, Nat.le_of_ble_eq_true rfl⟩ dL_law_406 rfl (Nat.le_of_ble_eq_true rfl) ⟨by show _ ≤ 658728; omega, by show _ ≤ 7125285; omega⟩ (fun r_406 V_3 G_4 hq_406 => ?_)
  obtain ⟨⟨lo_406, hlo_406, rfl⟩, rfl, rfl⟩ := hq_406
  refine q_iaddN C dL_law_409  ?_
  refine q_istore C [(17, .int (nI (1 + lo_406))), (16, .int (nI (1 + lo_394))), (15, .int (nI col)), (14, .int (nI wh)), (12, .int y), (10, .int (nI t)), (0, .ref b), (1, .ref (σ.2.1 0)), (2, .ref (σ.2.1 69)), (3, .ref (σ.2.1 70)), (4, .ref (σ.2.1 71)), (5, .ref (σ.2.1 72)), (6, .ref (σ.2.1 73)), (7, .ref (σ.2.1 74)), (8, .ref (σ.2.1 19)), (9, .ref (σ.2.1 18))] dL_law_410 (by decide) rfl ?_
  refine q_aload C dL_law_412 15 rfl ?_
  refine q_iconst C (nI 0) dL_law_414 (by decide) ?_
  refine q_iload C dL_law_415 1 rfl ?_
  refine q_iload C dL_law_417 0 rfl ?_
  refine q_callSi C (As := [.int (nI (1 + lo_394)), .int (nI (1 + lo_406))]) (rest := [.int (nI 0), .ref (σ.2.1 18)]) (kL_empty l σ V G (x := 1 + lo_394) (y := 1 + lo_406) (by omega) (by omega)) 2 gL_law_L_empty rfl rfl rfl (by decide +kernel) ⟨Nat.le_of_ble_eq_true rfl, Nat.le_of_ble_eq_true rfl⟩ dL_law_419 rfl (Nat.le_of_ble_eq_true rfl) ⟨by show _ ≤ 658728; omega, by show _ ≤ 7125285; omega⟩ (fun r_419 V_5 G_6 hq_419 => ?_)
  obtain ⟨rfl, rfl, rfl⟩ := hq_419
  refine q_iastN C (k := 18) (n := 3) ⟨by decide, by decide, by decide⟩ (by omega) (by decide) dL_law_422 ?_
  refine q_aload_n C dL_law_423 rfl 7 rfl ?_
  refine q_iload C dL_law_424 1 rfl ?_
  refine q_iload C dL_law_426 0 rfl ?_
  refine q_callVi C (As := [.int (nI (1 + lo_394)), .int (nI (1 + lo_406))]) (rest := []) (k := 0) (by omega) q_enBP rfl rfl (zM_draft l σ (q_up V 18 0 (nI (gemp (1 + lo_394) (1 + lo_406)))) G hlf (x := 1 + lo_394) (y := 1 + lo_406) (by omega) (by omega)) 2 gL_law_X2_draft rfl rfl rfl (by decide +kernel) ⟨Nat.le_of_ble_eq_true rfl, Nat.le_of_ble_eq_true rfl⟩ dL_law_428 rfl (Nat.le_of_ble_eq_true rfl) ⟨by show _ ≤ 658728; omega, by show _ ≤ 7125285; omega⟩ (fun r_428 V_7 G_8 hq_428 => ?_)
  obtain ⟨rfl, rfl, rfl⟩ := hq_428
  refine q_iload C dL_law_431 1 rfl ?_
  refine q_iload C dL_law_433 0 rfl ?_
  refine q_imulN C dL_law_435  ?_
  refine q_icmp_eq C 441 dL_law_436 (by decide) (fun c_436 => ?_) (fun c_436 => absurd c_436 (by exact fun z => z rfl))
  refine q_goto C 1572 dL_law_441 (by decide) ?_
  refine q_sub (lv' := [(15, .int (nI col)), (10, .int (nI t)), (0, .ref b), (1, .ref (σ.2.1 0)), (2, .ref (σ.2.1 69)), (3, .ref (σ.2.1 70)), (4, .ref (σ.2.1 71)), (5, .ref (σ.2.1 72)), (6, .ref (σ.2.1 73)), (7, .ref (σ.2.1 74)), (8, .ref (σ.2.1 19)), (9, .ref (σ.2.1 18))]) [2, 5, 6, 7, 8, 9, 10, 11, 12, 13, 14, 15] rfl ?_
  exact w_tail l hlf C hce hse (z_draft hrel (by omega) (by omega)) (by omega) ht hcol (by omega) (by omega) kk
