set_option maxHeartbeats 1000000 in
set_option maxRecDepth 20000 in
theorem w_bring {σ : q_E} {p : Program} {e : Env} {s : State} {m : MethodId} {below : List Frame} {meth : Method} {c : Code} {Q : State → Prop} {b L : Nat} {xs : Nat → Int32} (l : Launch) (hlf : l.stackTraces = false) (C : q_C σ p s m #[Value.ref b] c cL_law 8 RL wsL_law) (X : w_X σ s b L xs) {V : q_V} {G : q_G} {n ns : Nat} (h : q_Rel V G n ns) {i cells slots : Nat} (hi : i + 4 ≤ L) (hcs : cells + 6 ≤ 601024 ∧ slots + 36 ≤ 7293034) (kk : ∀ (V9 : q_V) (G9 : q_G), (∃ n ns, q_Rel V9 G9 n ns) → q_W σ p l e room_1 s m #[Value.ref b] below meth c Q 8 (cells + 6) (slots + 36) V9 G9 (w_lv σ b i) 1753 []) : q_W σ p l e room_1 s m #[Value.ref b] below meth c Q 8 cells slots V G (w_lv σ b i) 164 [] := by
  have hh := h
  obtain ⟨h1, h2, h3, h4, h5, h6, h7, h8, h9, h10⟩ := hh
  refine q_aload_n C dL_law_164 rfl 1 rfl ?_
  refine q_aload_n C dL_law_165 rfl 0 rfl ?_
  refine q_iload C dL_law_166 4 rfl ?_
  refine q_iconst C (nI 1) dL_law_168 (by decide) ?_
  refine q_iaddN C dL_law_169 ?_
  refine w_sld C X (by omega) dL_law_170 ?_
  refine q_aload_n C dL_law_171 rfl 0 rfl ?_
  refine q_iload C dL_law_172 4 rfl ?_
  refine q_iconst C (nI 2) dL_law_174 (by decide) ?_
  refine q_iaddN C dL_law_175 ?_
  refine w_sld C X (by omega) dL_law_176 ?_
  refine q_aload_n C dL_law_177 rfl 0 rfl ?_
  refine q_iload C dL_law_178 4 rfl ?_
  refine q_iconst C (nI 3) dL_law_180 (by decide) ?_
  refine q_iaddN C dL_law_181 ?_
  refine w_sld C X (by omega) dL_law_182 ?_
  refine q_aload_n C dL_law_183 rfl 3 rfl ?_
  refine q_callWi C (As := [.ref (σ.2.1 0), .int (xs (i + 1)), .int (xs (i + 2)), .int (xs (i + 3)), .ref (σ.2.1 18)]) (rest := []) (kL_bring l σ V G hlf (xs (i + 1)) (xs (i + 2)) (xs (i + 3))) 5 gL_law_L_bring rfl rfl rfl ⟨by decide +kernel, by decide +kernel, by decide +kernel⟩ ⟨Nat.le_of_ble_eq_true rfl, Nat.le_of_ble_eq_true rfl⟩ dL_law_184 rfl (Nat.le_of_ble_eq_true rfl) ⟨hcs.1, hcs.2⟩ (fun k V1 G1 hL => ?_)
  refine q_istore C [(5, .int k), (0, .ref b), (1, .ref (σ.2.1 0)), (2, .ref (σ.2.1 19)), (3, .ref (σ.2.1 18)), (4, .int (nI i))] dL_law_187 (by decide) rfl ?_
  refine q_aload_n C dL_law_189 rfl 3 rfl ?_
  refine q_aload_n C dL_law_190 rfl 1 rfl ?_
  refine q_iload C dL_law_191 5 rfl ?_
  refine q_iconst C (nI 1) dL_law_193 (by decide) ?_
  refine q_iaddN C dL_law_194 ?_
  refine w_sld C X (by omega) dL_law_195 ?_
  refine q_aload_n C dL_law_196 rfl 1 rfl ?_
  refine q_iload C dL_law_197 5 rfl ?_
  refine q_iconst C (nI 2) dL_law_199 (by decide) ?_
  refine q_iaddN C dL_law_200 ?_
  refine w_sld C X (by omega) dL_law_201 ?_
  refine q_aload_n C dL_law_202 rfl 1 rfl ?_
  refine q_iload C dL_law_203 5 rfl ?_
  refine q_iconst C (nI 3) dL_law_205 (by decide) ?_
  refine q_iaddN C dL_law_206 ?_
  refine w_sld C X (by omega) dL_law_207 ?_
  refine q_callVi C (As := [.int (xs (i + 1)), .int (xs (i + 2)), .int (xs (i + 3))]) (rest := []) (k := 19) (by omega) q_enMO rfl rfl (kX3_bring l σ V1 G1 (xs (i + 1)) (xs (i + 2)) (xs (i + 3))) 3 gL_law_X3_bring rfl rfl rfl ⟨by decide +kernel, by decide +kernel, by decide +kernel⟩ ⟨Nat.le_of_ble_eq_true rfl, Nat.le_of_ble_eq_true rfl⟩ dL_law_208 rfl (Nat.le_of_ble_eq_true rfl) ⟨by show cells + 6 + 0 ≤ 601024; omega, by show slots + 36 + 0 ≤ 7293034; omega⟩ (fun r V2 G2 hM => ?_)
  have hst := q_sim_bring h (xs (i + 1)) (xs (i + 2)) (xs (i + 3)) hL hM
  refine q_istore C [(6, .int r), (5, .int k), (0, .ref b), (1, .ref (σ.2.1 0)), (2, .ref (σ.2.1 19)), (3, .ref (σ.2.1 18)), (4, .int (nI i))] dL_law_211 (by decide) rfl ?_
  refine q_aload_n C dL_law_213 rfl 4 rfl ?_
  refine q_callVi C (As := []) (rest := []) (k := 19) (by omega) q_enMO rfl rfl (kX3_thrown l σ V2 G2) 0 gL_law_X3_thrown rfl rfl rfl ⟨by decide +kernel, by decide +kernel, by decide +kernel⟩ ⟨Nat.le_of_ble_eq_true rfl, Nat.le_of_ble_eq_true rfl⟩ dL_law_214 rfl (Nat.le_of_ble_eq_true rfl) ⟨by show cells + 6 + 0 + 0 ≤ 601024; omega, by show slots + 36 + 0 + 0 ≤ 7293034; omega⟩ (fun t3 V3 G3 hT => ?_)
  obtain ⟨rfl, rfl, rfl⟩ := hT
  refine q_iload C dL_law_217 1 rfl ?_
  refine q_icmp_eq C 224 dL_law_219 (by decide) (fun c1 => ?_) (fun c1 => absurd hst.1 c1)
  refine q_iload C dL_law_224 1 rfl ?_
  refine q_if_ne C 241 dL_law_226 (by decide) (fun c2 => ?_) (fun c2 => ?_)
  · skip
    refine q_goto C 1753 dL_law_241 (by decide) ?_
    exact q_sub [2, 3, 4, 5, 6] rfl (w_widen (by omega) (by omega) (kk V2 G2 hst.2.2))
  · have hk0 : k = 0 := c2
    have ho := hst.2.1 hk0
    refine q_aload_n C dL_law_229 rfl 5 rfl ?_
    refine q_iconst C (nI 0) dL_law_230 (by decide) ?_
    refine q_laldN C (n := 1) ⟨by omega, rfl, rfl⟩ (by omega : 0 < 1) (by omega) dL_law_231 ?_
    rw [ho]
    refine q_iload C dL_law_232 0 rfl ?_
    refine q_i2l C dL_law_234 ?_
    refine q_lcmp C dL_law_235 ?_
    rw [lg_cmp_self]
    refine q_if_eq C 241 dL_law_236 (by decide) (fun c3 => ?_) (fun c3 => absurd rfl c3)
    refine q_goto C 1753 dL_law_241 (by decide) ?_
    exact q_sub [2, 3, 4, 5, 6] rfl (w_widen (by omega) (by omega) (kk V2 G2 hst.2.2))
set_option maxHeartbeats 1000000 in
set_option maxRecDepth 20000 in
theorem w_lay {σ : q_E} {p : Program} {e : Env} {s : State} {m : MethodId} {below : List Frame} {meth : Method} {c : Code} {Q : State → Prop} {b L : Nat} {xs : Nat → Int32} (l : Launch) (hlf : l.stackTraces = false) (C : q_C σ p s m #[Value.ref b] c cL_law 8 RL wsL_law) (X : w_X σ s b L xs) {V : q_V} {G : q_G} {n ns : Nat} (h : q_Rel V G n ns) {i cells slots : Nat} (hi : i + 4 ≤ L) (hcs : cells + 6 ≤ 601024 ∧ slots + 36 ≤ 7293034) (kk : ∀ (V9 : q_V) (G9 : q_G), (∃ n ns, q_Rel V9 G9 n ns) → q_W σ p l e room_1 s m #[Value.ref b] below meth c Q 8 (cells + 6) (slots + 36) V9 G9 (w_lv σ b i) 1753 []) : q_W σ p l e room_1 s m #[Value.ref b] below meth c Q 8 cells slots V G (w_lv σ b i) 244 [] := by
  have hh := h
  obtain ⟨h1, h2, h3, h4, h5, h6, h7, h8, h9, h10⟩ := hh
  refine q_aload_n C dL_law_244 rfl 1 rfl ?_
  refine q_aload_n C dL_law_245 rfl 0 rfl ?_
  refine q_iload C dL_law_246 4 rfl ?_
  refine q_iconst C (nI 1) dL_law_248 (by decide) ?_
  refine q_iaddN C dL_law_249 ?_
  refine w_sld C X (by omega) dL_law_250 ?_
  refine q_aload_n C dL_law_251 rfl 0 rfl ?_
  refine q_iload C dL_law_252 4 rfl ?_
  refine q_iconst C (nI 2) dL_law_254 (by decide) ?_
  refine q_iaddN C dL_law_255 ?_
  refine w_sld C X (by omega) dL_law_256 ?_
  refine q_aload_n C dL_law_257 rfl 0 rfl ?_
  refine q_iload C dL_law_258 4 rfl ?_
  refine q_iconst C (nI 3) dL_law_260 (by decide) ?_
  refine q_iaddN C dL_law_261 ?_
  refine w_sld C X (by omega) dL_law_262 ?_
  refine q_aload_n C dL_law_263 rfl 3 rfl ?_
  refine q_callWi C (As := [.ref (σ.2.1 0), .int (xs (i + 1)), .int (xs (i + 2)), .int (xs (i + 3)), .ref (σ.2.1 18)]) (rest := []) (kL_lay l σ V G hlf (xs (i + 1)) (xs (i + 2)) (xs (i + 3))) 5 gL_law_L_lay rfl rfl rfl ⟨by decide +kernel, by decide +kernel, by decide +kernel⟩ ⟨Nat.le_of_ble_eq_true rfl, Nat.le_of_ble_eq_true rfl⟩ dL_law_264 rfl (Nat.le_of_ble_eq_true rfl) ⟨hcs.1, hcs.2⟩ (fun k V1 G1 hL => ?_)
  refine q_istore C [(5, .int k), (0, .ref b), (1, .ref (σ.2.1 0)), (2, .ref (σ.2.1 19)), (3, .ref (σ.2.1 18)), (4, .int (nI i))] dL_law_267 (by decide) rfl ?_
  refine q_aload_n C dL_law_269 rfl 3 rfl ?_
  refine q_aload_n C dL_law_270 rfl 1 rfl ?_
  refine q_iload C dL_law_271 5 rfl ?_
  refine q_iconst C (nI 1) dL_law_273 (by decide) ?_
  refine q_iaddN C dL_law_274 ?_
  refine w_sld C X (by omega) dL_law_275 ?_
  refine q_aload_n C dL_law_276 rfl 1 rfl ?_
  refine q_iload C dL_law_277 5 rfl ?_
  refine q_iconst C (nI 2) dL_law_279 (by decide) ?_
  refine q_iaddN C dL_law_280 ?_
  refine w_sld C X (by omega) dL_law_281 ?_
  refine q_aload_n C dL_law_282 rfl 1 rfl ?_
  refine q_iload C dL_law_283 5 rfl ?_
  refine q_iconst C (nI 3) dL_law_285 (by decide) ?_
  refine q_iaddN C dL_law_286 ?_
  refine w_sld C X (by omega) dL_law_287 ?_
  refine q_callVi C (As := [.int (xs (i + 1)), .int (xs (i + 2)), .int (xs (i + 3))]) (rest := []) (k := 19) (by omega) q_enMO rfl rfl (kX3_lay l σ V1 G1 (xs (i + 1)) (xs (i + 2)) (xs (i + 3))) 3 gL_law_X3_lay rfl rfl rfl ⟨by decide +kernel, by decide +kernel, by decide +kernel⟩ ⟨Nat.le_of_ble_eq_true rfl, Nat.le_of_ble_eq_true rfl⟩ dL_law_288 rfl (Nat.le_of_ble_eq_true rfl) ⟨by show cells + 6 + 0 ≤ 601024; omega, by show slots + 36 + 0 ≤ 7293034; omega⟩ (fun r V2 G2 hM => ?_)
  have hst := q_sim_lay h (xs (i + 1)) (xs (i + 2)) (xs (i + 3)) hL hM
  refine q_istore C [(6, .int r), (5, .int k), (0, .ref b), (1, .ref (σ.2.1 0)), (2, .ref (σ.2.1 19)), (3, .ref (σ.2.1 18)), (4, .int (nI i))] dL_law_291 (by decide) rfl ?_
  refine q_aload_n C dL_law_293 rfl 4 rfl ?_
  refine q_callVi C (As := []) (rest := []) (k := 19) (by omega) q_enMO rfl rfl (kX3_thrown l σ V2 G2) 0 gL_law_X3_thrown rfl rfl rfl ⟨by decide +kernel, by decide +kernel, by decide +kernel⟩ ⟨Nat.le_of_ble_eq_true rfl, Nat.le_of_ble_eq_true rfl⟩ dL_law_294 rfl (Nat.le_of_ble_eq_true rfl) ⟨by show cells + 6 + 0 + 0 ≤ 601024; omega, by show slots + 36 + 0 + 0 ≤ 7293034; omega⟩ (fun t3 V3 G3 hT => ?_)
  obtain ⟨rfl, rfl, rfl⟩ := hT
  refine q_iload C dL_law_297 1 rfl ?_
  refine q_icmp_eq C 304 dL_law_299 (by decide) (fun c1 => ?_) (fun c1 => absurd hst.1 c1)
  refine q_iload C dL_law_304 1 rfl ?_
  refine q_if_ne C 321 dL_law_306 (by decide) (fun c2 => ?_) (fun c2 => ?_)
  · skip
    refine q_goto C 1753 dL_law_321 (by decide) ?_
    exact q_sub [2, 3, 4, 5, 6] rfl (w_widen (by omega) (by omega) (kk V2 G2 hst.2.2))
  · have hk0 : k = 0 := c2
    have ho := hst.2.1 hk0
    refine q_aload_n C dL_law_309 rfl 5 rfl ?_
    refine q_iconst C (nI 0) dL_law_310 (by decide) ?_
    refine q_laldN C (n := 1) ⟨by omega, rfl, rfl⟩ (by omega : 0 < 1) (by omega) dL_law_311 ?_
    rw [ho]
    refine q_iload C dL_law_312 0 rfl ?_
    refine q_i2l C dL_law_314 ?_
    refine q_lcmp C dL_law_315 ?_
    rw [lg_cmp_self]
    refine q_if_eq C 321 dL_law_316 (by decide) (fun c3 => ?_) (fun c3 => absurd rfl c3)
    refine q_goto C 1753 dL_law_321 (by decide) ?_
    exact q_sub [2, 3, 4, 5, 6] rfl (w_widen (by omega) (by omega) (kk V2 G2 hst.2.2))
set_option maxHeartbeats 1000000 in
set_option maxRecDepth 20000 in
theorem w_hand {σ : q_E} {p : Program} {e : Env} {s : State} {m : MethodId} {below : List Frame} {meth : Method} {c : Code} {Q : State → Prop} {b L : Nat} {xs : Nat → Int32} (l : Launch) (hlf : l.stackTraces = false) (C : q_C σ p s m #[Value.ref b] c cL_law 8 RL wsL_law) (X : w_X σ s b L xs) {V : q_V} {G : q_G} {n ns : Nat} (h : q_Rel V G n ns) {i cells slots : Nat} (hi : i + 4 ≤ L) (hcs : cells + 6 ≤ 601024 ∧ slots + 36 ≤ 7293034) (kk : ∀ (V9 : q_V) (G9 : q_G), (∃ n ns, q_Rel V9 G9 n ns) → q_W σ p l e room_1 s m #[Value.ref b] below meth c Q 8 (cells + 6) (slots + 36) V9 G9 (w_lv σ b i) 1753 []) : q_W σ p l e room_1 s m #[Value.ref b] below meth c Q 8 cells slots V G (w_lv σ b i) 324 [] := by
  have hh := h
  obtain ⟨h1, h2, h3, h4, h5, h6, h7, h8, h9, h10⟩ := hh
  refine q_aload_n C dL_law_324 rfl 1 rfl ?_
  refine q_aload_n C dL_law_325 rfl 0 rfl ?_
  refine q_iload C dL_law_326 4 rfl ?_
  refine q_iconst C (nI 1) dL_law_328 (by decide) ?_
  refine q_iaddN C dL_law_329 ?_
  refine w_sld C X (by omega) dL_law_330 ?_
  refine q_aload_n C dL_law_331 rfl 0 rfl ?_
  refine q_iload C dL_law_332 4 rfl ?_
  refine q_iconst C (nI 2) dL_law_334 (by decide) ?_
  refine q_iaddN C dL_law_335 ?_
  refine w_sld C X (by omega) dL_law_336 ?_
  refine q_aload_n C dL_law_337 rfl 3 rfl ?_
  refine q_callWi C (As := [.ref (σ.2.1 0), .int (xs (i + 1)), .int (xs (i + 2)), .ref (σ.2.1 18)]) (rest := []) (kL_hand l σ V G hlf (xs (i + 1)) (xs (i + 2))) 4 gL_law_L_hand rfl rfl rfl ⟨by decide +kernel, by decide +kernel, by decide +kernel⟩ ⟨Nat.le_of_ble_eq_true rfl, Nat.le_of_ble_eq_true rfl⟩ dL_law_338 rfl (Nat.le_of_ble_eq_true rfl) ⟨hcs.1, hcs.2⟩ (fun k V1 G1 hL => ?_)
  refine q_istore C [(5, .int k), (0, .ref b), (1, .ref (σ.2.1 0)), (2, .ref (σ.2.1 19)), (3, .ref (σ.2.1 18)), (4, .int (nI i))] dL_law_341 (by decide) rfl ?_
  refine q_aload_n C dL_law_343 rfl 3 rfl ?_
  refine q_aload_n C dL_law_344 rfl 1 rfl ?_
  refine q_iload C dL_law_345 5 rfl ?_
  refine q_iconst C (nI 1) dL_law_347 (by decide) ?_
  refine q_iaddN C dL_law_348 ?_
  refine w_sld C X (by omega) dL_law_349 ?_
  refine q_aload_n C dL_law_350 rfl 1 rfl ?_
  refine q_iload C dL_law_351 5 rfl ?_
  refine q_iconst C (nI 2) dL_law_353 (by decide) ?_
  refine q_iaddN C dL_law_354 ?_
  refine w_sld C X (by omega) dL_law_355 ?_
  refine q_callVi C (As := [.int (xs (i + 1)), .int (xs (i + 2))]) (rest := []) (k := 19) (by omega) q_enMO rfl rfl (kX3_hand l σ V1 G1 (xs (i + 1)) (xs (i + 2))) 2 gL_law_X3_hand rfl rfl rfl ⟨by decide +kernel, by decide +kernel, by decide +kernel⟩ ⟨Nat.le_of_ble_eq_true rfl, Nat.le_of_ble_eq_true rfl⟩ dL_law_356 rfl (Nat.le_of_ble_eq_true rfl) ⟨by show cells + 6 + 0 ≤ 601024; omega, by show slots + 36 + 0 ≤ 7293034; omega⟩ (fun r V2 G2 hM => ?_)
  have hst := q_sim_hand h (xs (i + 1)) (xs (i + 2)) hL hM
  refine q_istore C [(6, .int r), (5, .int k), (0, .ref b), (1, .ref (σ.2.1 0)), (2, .ref (σ.2.1 19)), (3, .ref (σ.2.1 18)), (4, .int (nI i))] dL_law_359 (by decide) rfl ?_
  refine q_aload_n C dL_law_361 rfl 4 rfl ?_
  refine q_callVi C (As := []) (rest := []) (k := 19) (by omega) q_enMO rfl rfl (kX3_thrown l σ V2 G2) 0 gL_law_X3_thrown rfl rfl rfl ⟨by decide +kernel, by decide +kernel, by decide +kernel⟩ ⟨Nat.le_of_ble_eq_true rfl, Nat.le_of_ble_eq_true rfl⟩ dL_law_362 rfl (Nat.le_of_ble_eq_true rfl) ⟨by show cells + 6 + 0 + 0 ≤ 601024; omega, by show slots + 36 + 0 + 0 ≤ 7293034; omega⟩ (fun t3 V3 G3 hT => ?_)
  obtain ⟨rfl, rfl, rfl⟩ := hT
  refine q_iload C dL_law_365 1 rfl ?_
  refine q_icmp_eq C 372 dL_law_367 (by decide) (fun c1 => ?_) (fun c1 => absurd hst.1 c1)
  refine q_iload C dL_law_372 1 rfl ?_
  refine q_if_ne C 389 dL_law_374 (by decide) (fun c2 => ?_) (fun c2 => ?_)
  · skip
    refine q_goto C 1753 dL_law_389 (by decide) ?_
    exact q_sub [2, 3, 4, 5, 6] rfl (w_widen (by omega) (by omega) (kk V2 G2 hst.2.2))
  · have hk0 : k = 0 := c2
    have ho := hst.2.1 hk0
    refine q_aload_n C dL_law_377 rfl 5 rfl ?_
    refine q_iconst C (nI 0) dL_law_378 (by decide) ?_
    refine q_laldN C (n := 1) ⟨by omega, rfl, rfl⟩ (by omega : 0 < 1) (by omega) dL_law_379 ?_
    rw [ho]
    refine q_iload C dL_law_380 0 rfl ?_
    refine q_i2l C dL_law_382 ?_
    refine q_lcmp C dL_law_383 ?_
    rw [lg_cmp_self]
    refine q_if_eq C 389 dL_law_384 (by decide) (fun c3 => ?_) (fun c3 => absurd rfl c3)
    refine q_goto C 1753 dL_law_389 (by decide) ?_
    exact q_sub [2, 3, 4, 5, 6] rfl (w_widen (by omega) (by omega) (kk V2 G2 hst.2.2))
set_option maxHeartbeats 1000000 in
set_option maxRecDepth 20000 in
theorem w_beads {σ : q_E} {p : Program} {e : Env} {s : State} {m : MethodId} {below : List Frame} {meth : Method} {c : Code} {Q : State → Prop} {b L : Nat} {xs : Nat → Int32} (l : Launch) (hlf : l.stackTraces = false) (C : q_C σ p s m #[Value.ref b] c cL_law 8 RL wsL_law) (X : w_X σ s b L xs) {V : q_V} {G : q_G} {n ns : Nat} (h : q_Rel V G n ns) {i cells slots : Nat} (hi : i + 4 ≤ L) (hcs : cells + 6 ≤ 601024 ∧ slots + 36 ≤ 7293034) (kk : ∀ (V9 : q_V) (G9 : q_G), (∃ n ns, q_Rel V9 G9 n ns) → q_W σ p l e room_1 s m #[Value.ref b] below meth c Q 8 (cells + 6) (slots + 36) V9 G9 (w_lv σ b i) 1753 []) : q_W σ p l e room_1 s m #[Value.ref b] below meth c Q 8 cells slots V G (w_lv σ b i) 392 [] := by
  have hh := h
  obtain ⟨h1, h2, h3, h4, h5, h6, h7, h8, h9, h10⟩ := hh
  refine q_aload_n C dL_law_392 rfl 1 rfl ?_
  refine q_aload_n C dL_law_393 rfl 0 rfl ?_
  refine q_iload C dL_law_394 4 rfl ?_
  refine q_iconst C (nI 1) dL_law_396 (by decide) ?_
  refine q_iaddN C dL_law_397 ?_
  refine w_sld C X (by omega) dL_law_398 ?_
  refine q_aload_n C dL_law_399 rfl 3 rfl ?_
  refine q_callWi C (As := [.ref (σ.2.1 0), .int (xs (i + 1)), .ref (σ.2.1 18)]) (rest := []) (kL_beads l σ V G hlf h4.2.2.1 h4.2.2.2.1 (q_Rel_mbelts h7).2.1 (xs (i + 1))) 3 gL_law_L_beads rfl rfl rfl ⟨by decide +kernel, by decide +kernel, by decide +kernel⟩ ⟨Nat.le_of_ble_eq_true rfl, Nat.le_of_ble_eq_true rfl⟩ dL_law_400 rfl (Nat.le_of_ble_eq_true rfl) ⟨hcs.1, hcs.2⟩ (fun k V1 G1 hL => ?_)
  have hm : q_m V V1 := by
    rcases hL with ⟨r9, V9, G9, hq, -, rfl, -⟩ | ⟨E9, hq, -⟩
    · obtain ⟨-, -, rfl, -⟩ := hq
      exact q_m_rf V
    · obtain ⟨-, rfl, -⟩ := hq
      exact q_m_rf V
  refine q_istore C [(5, .int k), (0, .ref b), (1, .ref (σ.2.1 0)), (2, .ref (σ.2.1 19)), (3, .ref (σ.2.1 18)), (4, .int (nI i))] dL_law_403 (by decide) rfl ?_
  refine q_aload_n C dL_law_405 rfl 3 rfl ?_
  refine q_aload_n C dL_law_406 rfl 1 rfl ?_
  refine q_iload C dL_law_407 5 rfl ?_
  refine q_iconst C (nI 1) dL_law_409 (by decide) ?_
  refine q_iaddN C dL_law_410 ?_
  refine w_sld C X (by omega) dL_law_411 ?_
  refine q_callVi C (As := [.int (xs (i + 1))]) (rest := []) (k := 19) (by omega) q_enMO rfl rfl (kX3_beads l σ V1 G1 h4.2.2.1 (w_mp h4 hm).2 (w_mb h7 hm).1 (xs (i + 1))) 1 gL_law_X3_beads rfl rfl rfl ⟨by decide +kernel, by decide +kernel, by decide +kernel⟩ ⟨Nat.le_of_ble_eq_true rfl, Nat.le_of_ble_eq_true rfl⟩ dL_law_412 rfl (Nat.le_of_ble_eq_true rfl) ⟨by show cells + 6 + 0 ≤ 601024; omega, by show slots + 36 + 0 ≤ 7293034; omega⟩ (fun r V2 G2 hM => ?_)
  have hst := q_sim_beads h (xs (i + 1)) hL hM
  refine q_istore C [(6, .int r), (5, .int k), (0, .ref b), (1, .ref (σ.2.1 0)), (2, .ref (σ.2.1 19)), (3, .ref (σ.2.1 18)), (4, .int (nI i))] dL_law_415 (by decide) rfl ?_
  refine q_aload_n C dL_law_417 rfl 4 rfl ?_
  refine q_callVi C (As := []) (rest := []) (k := 19) (by omega) q_enMO rfl rfl (kX3_thrown l σ V2 G2) 0 gL_law_X3_thrown rfl rfl rfl ⟨by decide +kernel, by decide +kernel, by decide +kernel⟩ ⟨Nat.le_of_ble_eq_true rfl, Nat.le_of_ble_eq_true rfl⟩ dL_law_418 rfl (Nat.le_of_ble_eq_true rfl) ⟨by show cells + 6 + 0 + 0 ≤ 601024; omega, by show slots + 36 + 0 + 0 ≤ 7293034; omega⟩ (fun t3 V3 G3 hT => ?_)
  obtain ⟨rfl, rfl, rfl⟩ := hT
  refine q_iload C dL_law_421 1 rfl ?_
  refine q_icmp_eq C 428 dL_law_423 (by decide) (fun c1 => ?_) (fun c1 => absurd hst.1 c1)
  refine q_iload C dL_law_428 1 rfl ?_
  refine q_if_ne C 445 dL_law_430 (by decide) (fun c2 => ?_) (fun c2 => ?_)
  · skip
    refine q_goto C 1753 dL_law_445 (by decide) ?_
    exact q_sub [2, 3, 4, 5, 6] rfl (w_widen (by omega) (by omega) (kk V2 G2 hst.2.2))
  · have hk0 : k = 0 := c2
    have ho := hst.2.1 hk0
    refine q_aload_n C dL_law_433 rfl 5 rfl ?_
    refine q_iconst C (nI 0) dL_law_434 (by decide) ?_
    refine q_laldN C (n := 1) ⟨by omega, rfl, rfl⟩ (by omega : 0 < 1) (by omega) dL_law_435 ?_
    rw [ho]
    refine q_iload C dL_law_436 0 rfl ?_
    refine q_i2l C dL_law_438 ?_
    refine q_lcmp C dL_law_439 ?_
    rw [lg_cmp_self]
    refine q_if_eq C 445 dL_law_440 (by decide) (fun c3 => ?_) (fun c3 => absurd rfl c3)
    refine q_goto C 1753 dL_law_445 (by decide) ?_
    exact q_sub [2, 3, 4, 5, 6] rfl (w_widen (by omega) (by omega) (kk V2 G2 hst.2.2))
