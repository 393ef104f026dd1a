theorem w_app8 {α : Type} (A : List α) (x0 x1 x2 x3 x4 x5 x6 x7 : α) : (((((((A ++ [x0]) ++ [x1]) ++ [x2]) ++ [x3]) ++ [x4]) ++ [x5]) ++ [x6]) ++ [x7] = A ++ [x0, x1, x2, x3, x4, x5, x6, x7] := by simp
theorem w_mem (D : va_G) (q0 : Nat) (a r g1 w1 g2 w2 x : Nat → Nat) (cI cJ cB cQ cM : ClassId) {A : Nat → Prop} {H : Heap} (hP : va_P D vwCl (w_W q0 a r g1 w1 g2 w2 x cI cJ cB cQ cM) H) (hD : va_D A (w_W q0 a r g1 w1 g2 w2 x cI cJ cB cQ cM)) : va_P (w_σ D q0 a r g1 w1 g2 w2 x cI cJ cB cQ cM).1 vwCl (q_ws (w_σ D q0 a r g1 w1 g2 w2 x cI cJ cB cQ cM) w_V0 w_G0) H ∧ q_inj (w_σ D q0 a r g1 w1 g2 w2 x cI cJ cB cQ cM) ∧ ∀ k, k < 75 → A ((w_σ D q0 a r g1 w1 g2 w2 x cI cJ cB cQ cM).2.1 k) := by
  refine ⟨fun k q hk => ?_, fun i j hi hj h => ?_, fun k hk => ?_⟩
  · obtain ⟨h75, rfl⟩ := q_ws_in hk
    obtain ⟨e, h1, h2⟩ := w_atk D q0 a r g1 w1 g2 w2 x cI cJ cB cQ cM k h75
    exact h2 H (hP _ _ h1)
  · obtain ⟨e, h1, -⟩ := w_atk D q0 a r g1 w1 g2 w2 x cI cJ cB cQ cM i hi
    obtain ⟨e2, h2, -⟩ := w_atk D q0 a r g1 w1 g2 w2 x cI cJ cB cQ cM j hj
    exact w_pos_inj i hi j hj (hD.1 _ _ _ _ h1 h2 h)
  · obtain ⟨e, h1, -⟩ := w_atk D q0 a r g1 w1 g2 w2 x cI cJ cB cQ cM k hk
    exact hD.2 _ _ h1
theorem w_nwIn : ∀ w ∈ q_nw, w ∈ lw_tbl := by decide +kernel
theorem w_nwOn : ∀ w ∈ q_nw, w.onTables = true := by decide +kernel
theorem w_stIn : ∀ z ∈ q_st, Cond.stringRef RX2 z.1 z.2 ∈ lw_tbl := by decide +kernel
theorem w_K {p : Program} {s : State} {m : MethodId} {meth : Method} {c : Code} {b L : Nat} {xs : Nat → Int32} {σ : q_E} (C0 : lw_At p s m meth c b L xs) (hK : va_K σ.1 vwCl (q_tys σ) s) (hi : q_inj σ) (hσ : ∀ k, k < 75 → s.heap.size ≤ σ.2.1 k) : q_K σ s := by
  obtain ⟨hx, hb, hr, hml, hown, hts, hX, hbl, hlocks, hgv⟩ := C0
  have hfl := flat_of_before _ hgv
  have hnA : ∀ q : Nat, q < s.heap.size → ¬ q_A σ s.heap.size q := fun q hq h => h.elim (fun ⟨k, hk, e⟩ => by have := hσ k hk; omega) (fun h => by omega)
  have hcur : s.vm.findClass RX2 = some (σ.1.1 2) := (hK.1 2 _ rfl).2.1
  refine ⟨hK, hi, fun w hw => va_Nw.of (w_nwOn w hw) (hts w (w_nwIn w hw)), fun z hz => ?_, vx_Zqof (hts (.laysStatic Bundle.tN "UNASSIGNED_STACK" Bundle.steD) (by decide +kernel)) (hts (.initialized Bundle.tN) (by decide +kernel)) (hfl (.isRef (.static Bundle.tN "UNASSIGNED_STACK" Bundle.steD)) (by decide +kernel)) hnA, vx_Zqof (hts (.laysStatic Bundle.tN "SUPPRESSED_SENTINEL" Bundle.listD) (by decide +kernel)) (hts (.initialized Bundle.tN) (by decide +kernel)) (hfl (.isRef (.static Bundle.tN "SUPPRESSED_SENTINEL" Bundle.listD)) (by decide +kernel)) hnA, fun z hz => ?_⟩
  · have h9 := hts _ (w_stIn z hz)
    obtain ⟨k, cf, i, sa, -, -, -, -, -, he⟩ := Cond.stringRef_spec hcur h9
    exact ⟨sa, vk_R.of h9 he⟩
  · simp only [q_nc, List.mem_cons, List.not_mem_nil, or_false] at hz
    rcases hz with rfl | rfl | rfl | rfl | rfl | rfl
    · exact va_Nc.of (hfl (.not (.castable "java/lang/IndexOutOfBoundsException" "java/lang/IllegalArgumentException")) (by decide +kernel))
    · exact va_Nc.of (hfl (.not (.castable "java/lang/IndexOutOfBoundsException" "java/lang/IllegalStateException")) (by decide +kernel))
    · exact va_Nc.of (hfl (.not (.castable "java/lang/IllegalArgumentException" "java/lang/IndexOutOfBoundsException")) (by decide +kernel))
    · exact va_Nc.of (hfl (.not (.castable "java/lang/IllegalArgumentException" "java/lang/IllegalStateException")) (by decide +kernel))
    · exact va_Nc.of (hfl (.not (.castable "java/lang/IllegalStateException" "java/lang/IndexOutOfBoundsException")) (by decide +kernel))
    · exact va_Nc.of (hfl (.not (.castable "java/lang/IllegalStateException" "java/lang/IllegalArgumentException")) (by decide +kernel))
theorem va_S_mono {A B : Nat → Prop} {H0 H : Heap} {locs : List Loc} (h : va_S A H0 H locs) (hAB : ∀ q, A q → B q) : va_S B H0 H locs := ⟨h.1, fun q h1 h2 => h.2.1 q h1 (fun h3 => h2 (hAB q h3)), fun l hl => hAB _ (h.2.2 l hl)⟩
set_option maxHeartbeats 2000000 in
set_option maxRecDepth 20000 in
theorem whole_start {p : Program} {e : Env} {s : State} {m : MethodId} {below : List Frame} {meth : Method} {c : Code} (l : Launch) (hflags : l.flags = flags0) {b L : Nat} {xs : Nat → Int32} (hL : L ≤ 260) (C0 : lw_At p s m meth c b L xs) : W p l e room_1 s m #[Value.ref b] below meth c s.heap [] 0 0 (lw_Z below #[Value.ref b] s) (entryFrame m ([Value.ref b] : List Value).toArray 21) := by
  obtain ⟨hx, hb, hr, hml, hown, hts, hX, hbl, hlocks, hgv⟩ := id C0
  have htl : ∀ w ∈ wsL_law, w.before #[Value.ref b] s = true := fun w h => hts w (wsL_law_in w h)
  have hlf : l.stackTraces = false := by
    unfold Launch.stackTraces
    rw [hflags]
    decide +kernel
  have hA : ∀ q : Nat, s.heap.size ≤ q → (fun q : Nat => s.heap.size ≤ q) q := fun _ h => h
  obtain ⟨c0, iS0, hKn0⟩ := u_known (C := RX0) (T := TX0) (N := 6) (n := 6) htl inlX0 (htl (.instantiable RX0 6) (by decide +kernel))
  obtain ⟨c1, iS1, hKn1⟩ := u_known (C := RX1) (T := TX1) (N := 3) (n := 3) htl inlX1 (htl (.instantiable RX1 3) (by decide +kernel))
  obtain ⟨c2, iS2, hKn2⟩ := u_known (C := RX2) (T := TX2) (N := 15) (n := 15) htl inlX2 (htl (.instantiable RX2 15) (by decide +kernel))
  obtain ⟨D, hKc⟩ : ∃ D : va_G, ∀ (k : Nat) (q : vw_C), vwCl[k]? = some q → u_Kn s q.1 q.2.1 q.2.2 (D.1 k) (D.2 k) := by
    refine ⟨(fun k => if k = 0 then c0 else if k = 1 then c1 else c2, fun k => if k = 0 then iS0 else if k = 1 then iS1 else iS2), ?_⟩
    intro k q hq
    match k, hq with
    | 0, hq => cases hq; exact hKn0
    | 1, hq => cases hq; exact hKn1
    | 2, hq => cases hq; exact hKn2
    | k + 3, hq => simp [vwCl] at hq
  have hn23 : va_Nw (.methodLinkNest RX2 23 yX1_init RX2) s := va_Nw.of rfl (hts (.methodLinkNest RX2 23 yX1_init RX2) (by decide +kernel))
  have hn46 : va_Nw (.methodLinkNest RX2 46 yX0_init RX2) s := va_Nw.of rfl (hts (.methodLinkNest RX2 46 yX0_init RX2) (by decide +kernel))
  have hao : va_AO RX1 s := va_AO.of (hts (.arrayOver (.object RX1)) (by decide +kernel))
  have haoa : va_AOA .int s := va_AOA.of (hts (.arrayOver (.array .int)) (by decide +kernel))
  have hS : va_S (fun q : Nat => s.heap.size ≤ q) s.heap s.heap [] := va_S.rf
  have hK : va_K D vwCl [] s := ⟨hKc, fun k q h => by simp at h⟩
  have hP : va_P D vwCl [] s.heap := fun k q h => by simp at h
  have hD : va_D (fun q : Nat => s.heap.size ≤ q) [] := ⟨fun i j p q h => by simp at h, fun k q h => by simp at h⟩
  have hl := lv_entry ([.ref b]) (n := 21) (Nat.le_of_ble_eq_true rfl)
  rw [lg_entry_eq]
  generalize (lg_sl ([.ref b]) ++ List.replicate (21 - (lg_sl ([.ref b])).length) Slot.unset).toArray = ls at hl ⊢
  have hl : lv_has ls 21 [(0, .ref b)] := hl
  refine va_new (ci := 2) (fs := [.null, .null, .null, .null, .null, .null, .int 0, .null, .null, .null, .null, .null, .null, .int 0, .null]) (C := RX2) (T := TX2) (N := 15) hx hb htl inlX2 tyX2 tyX2_ok hown (htl (.classLink RL 38 RX2) (by decide +kernel)) (htl (.instantiable RX2 15) (by decide +kernel)) (htl (.initialized RX2) (by decide +kernel)) hK hP hD hS hA rfl (fun j hj => by rcases (show j = 0 ∨ j = 1 ∨ j = 2 ∨ j = 3 ∨ j = 4 ∨ j = 5 ∨ j = 6 ∨ j = 7 ∨ j = 8 ∨ j = 9 ∨ j = 10 ∨ j = 11 ∨ j = 12 ∨ j = 13 ∨ j = 14 by omega) with rfl | rfl | rfl | rfl | rfl | rfl | rfl | rfl | rfl | rfl | rfl | rfl | rfl | rfl | rfl <;> rfl) (Nat.le_of_ble_eq_true rfl) (Nat.le_of_ble_eq_true rfl) dL_law_0 (fun q0 H hP hD hS => ?_)
  refine lv_dup hx hb dL_law_3 rfl ?_
  have hPc := m_lastP hP
  have hDc := m_lastD hD
  have hKc := hK
  have hFc := m_lastF hD hS hA
  refine va_callv (va_runI (As := []) (rest := [.ref q0]) ⟨hx, hb, hml, hown, htl⟩ (mX2_init l D q0 H.size) (cwI 0 htl gL_law_X2_init rfl rfl rfl (htl (.initialized RX2) (by decide +kernel)) (htl (.methodLink RL 112 yX2_init) (by decide +kernel)) (htl (.instanceMethod yX2_init) (by decide +kernel)) rfl ⟨by decide +kernel, by decide +kernel, by decide +kernel⟩ ⟨Nat.le_of_ble_eq_true rfl, Nat.le_of_ble_eq_true rfl⟩) ⟨fun a U g mk q => by obtain ⟨q0, q1, qP, qK, qD, qn1, qn2, qa1, qa2⟩ := q; exact ⟨q0, q1, qP, va_K.moved (u := U) (U := U.calling g mk a) (Vm.Alike.refl U.vm) qK, qD, va_Nw.same rfl (u := U) (U := U.calling g mk a) rfl qn1, va_Nw.same rfl (u := U) (U := U.calling g mk a) rfl qn2, va_AO.moved (u := U) (U := U.calling g mk a) (Vm.Alike.refl U.vm) qa1, va_AOA.moved (u := U) (U := U.calling g mk a) (Vm.Alike.refl U.vm) qa2⟩, fun U hU hW => ⟨rfl, by rw [hU], by rw [hU]; exact hPc, va_K.moved hW.alike hKc, hDc.weaken (fun _ _ _ _ => trivial), va_Nw.warmM hW hn23, va_Nw.warmM hW hn46, va_AO.moved hW.alike hao, va_AOA.moved hW.alike haoa⟩⟩ rfl rfl hl.1 rfl (lv_room (Nat.le_of_ble_eq_true rfl)) dL_law_4 ⟨Nat.le_of_ble_eq_true rfl, Nat.le_of_ble_eq_true rfl⟩) hS (fun q _ h => hFc q h) hFc (fun u t H1 locs ht hvm hw hB hz1 hk1 hS => ?_)
  obtain ⟨⟨a, r, g1, w1, g2, w2⟩, cI, cJ, cB, cQ, cM⟩ := u
  obtain ⟨hP1, hK1, hD1⟩ := hB
  rw [ht] at hP1
  have hK : va_K D vwCl [(cM, .array .int), (cI, .int), (cQ, .object RX1), (cB, .boolean), (cJ, .long)] s := va_K.moved hvm.symm hK1
  have hP1 : va_P D vwCl (m_W2 q0 a r g1 w1 g2 w2 cI cJ cB cQ cM) H1 := hP1
  obtain ⟨hP, hD⟩ := m_lastJ hP hD hk1 hFc hP1 hD1
  generalize H1 = H at hP hS ⊢
  rw [List.nil_append] at hP hD
  refine lv_astore_n (lv' := [(1, .ref q0), (0, .ref b)]) hx hb dL_law_7 rfl hl (by decide) rfl (fun ls hl => ?_)
  refine lv_bipush (v := nI 18) hx hb dL_law_8 (by decide) ?_
  refine va_newa (atype := .int) (ty := .int) (N' := 18) (a0 := (18, .inl (fun _ => 0))) hx hb (htl (.arrayClass .int) (by decide +kernel)) rfl hK hP hD hS hA (m_haI 18) (by decide +kernel) (by decide +kernel) (by decide +kernel) (Nat.le_of_ble_eq_true rfl) (Nat.le_of_ble_eq_true rfl) dL_law_10 (fun x0 cI9 H hK hP hD hS => ?_)
  have e9 : cI = cI9 := m_same hK 1 5 rfl rfl
  subst e9
  have hK : va_K D vwCl [(cM, .array .int), (cI, .int), (cQ, .object RX1), (cB, .boolean), (cJ, .long)] s := hK.sub [0, 1, 2, 3, 4] rfl
  refine lv_astore_n (lv' := [(2, .ref x0), (1, .ref q0), (0, .ref b)]) hx hb dL_law_12 rfl hl (by decide) rfl (fun ls hl => ?_)
  refine lv_bipush (v := nI 8) hx hb dL_law_13 (by decide) ?_
  refine va_newa (atype := .int) (ty := .int) (N' := 8) (a0 := (8, .inl (fun _ => 0))) hx hb (htl (.arrayClass .int) (by decide +kernel)) rfl hK hP hD hS hA (m_haI 8) (by decide +kernel) (by decide +kernel) (by decide +kernel) (Nat.le_of_ble_eq_true rfl) (Nat.le_of_ble_eq_true rfl) dL_law_15 (fun x1 cI9 H hK hP hD hS => ?_)
  have e9 : cI = cI9 := m_same hK 1 5 rfl rfl
  subst e9
  have hK : va_K D vwCl [(cM, .array .int), (cI, .int), (cQ, .object RX1), (cB, .boolean), (cJ, .long)] s := hK.sub [0, 1, 2, 3, 4] rfl
  refine lv_astore_n (lv' := [(3, .ref x1), (2, .ref x0), (1, .ref q0), (0, .ref b)]) hx hb dL_law_17 rfl hl (by decide) rfl (fun ls hl => ?_)
  refine lv_bipush (v := nI 12) hx hb dL_law_18 (by decide) ?_
  refine va_newa (atype := .int) (ty := .int) (N' := 12) (a0 := (12, .inl (fun _ => 0))) hx hb (htl (.arrayClass .int) (by decide +kernel)) rfl hK hP hD hS hA (m_haI 12) (by decide +kernel) (by decide +kernel) (by decide +kernel) (Nat.le_of_ble_eq_true rfl) (Nat.le_of_ble_eq_true rfl) dL_law_20 (fun x2 cI9 H hK hP hD hS => ?_)
  have e9 : cI = cI9 := m_same hK 1 5 rfl rfl
  subst e9
  have hK : va_K D vwCl [(cM, .array .int), (cI, .int), (cQ, .object RX1), (cB, .boolean), (cJ, .long)] s := hK.sub [0, 1, 2, 3, 4] rfl
  refine lv_astore (lv' := [(4, .ref x2), (3, .ref x1), (2, .ref x0), (1, .ref q0), (0, .ref b)]) hx hb dL_law_22 hl (by decide) rfl (fun ls hl => ?_)
  refine lv_bipush (v := nI 64) hx hb dL_law_24 (by decide) ?_
  refine va_newa (atype := .int) (ty := .int) (N' := 64) (a0 := (64, .inl (fun _ => 0))) hx hb (htl (.arrayClass .int) (by decide +kernel)) rfl hK hP hD hS hA (m_haI 64) (by decide +kernel) (by decide +kernel) (by decide +kernel) (Nat.le_of_ble_eq_true rfl) (Nat.le_of_ble_eq_true rfl) dL_law_26 (fun x3 cI9 H hK hP hD hS => ?_)
  have e9 : cI = cI9 := m_same hK 1 5 rfl rfl
  subst e9
  have hK : va_K D vwCl [(cM, .array .int), (cI, .int), (cQ, .object RX1), (cB, .boolean), (cJ, .long)] s := hK.sub [0, 1, 2, 3, 4] rfl
  refine lv_astore (lv' := [(5, .ref x3), (4, .ref x2), (3, .ref x1), (2, .ref x0), (1, .ref q0), (0, .ref b)]) hx hb dL_law_28 hl (by decide) rfl (fun ls hl => ?_)
  refine lv_bipush (v := nI 14) hx hb dL_law_30 (by decide) ?_
  refine va_newa (atype := .int) (ty := .int) (N' := 14) (a0 := (14, .inl (fun _ => 0))) hx hb (htl (.arrayClass .int) (by decide +kernel)) rfl hK hP hD hS hA (m_haI 14) (by decide +kernel) (by decide +kernel) (by decide +kernel) (Nat.le_of_ble_eq_true rfl) (Nat.le_of_ble_eq_true rfl) dL_law_32 (fun x4 cI9 H hK hP hD hS => ?_)
  have e9 : cI = cI9 := m_same hK 1 5 rfl rfl
  subst e9
  have hK : va_K D vwCl [(cM, .array .int), (cI, .int), (cQ, .object RX1), (cB, .boolean), (cJ, .long)] s := hK.sub [0, 1, 2, 3, 4] rfl
  refine lv_astore (lv' := [(6, .ref x4), (5, .ref x3), (4, .ref x2), (3, .ref x1), (2, .ref x0), (1, .ref q0), (0, .ref b)]) hx hb dL_law_34 hl (by decide) rfl (fun ls hl => ?_)
  refine lv_bipush (v := nI 15) hx hb dL_law_36 (by decide) ?_
  refine va_newa (atype := .int) (ty := .int) (N' := 15) (a0 := (15, .inl (fun _ => 0))) hx hb (htl (.arrayClass .int) (by decide +kernel)) rfl hK hP hD hS hA (m_haI 15) (by decide +kernel) (by decide +kernel) (by decide +kernel) (Nat.le_of_ble_eq_true rfl) (Nat.le_of_ble_eq_true rfl) dL_law_38 (fun x5 cI9 H hK hP hD hS => ?_)
  have e9 : cI = cI9 := m_same hK 1 5 rfl rfl
  subst e9
  have hK : va_K D vwCl [(cM, .array .int), (cI, .int), (cQ, .object RX1), (cB, .boolean), (cJ, .long)] s := hK.sub [0, 1, 2, 3, 4] rfl
  refine lv_astore (lv' := [(7, .ref x5), (6, .ref x4), (5, .ref x3), (4, .ref x2), (3, .ref x1), (2, .ref x0), (1, .ref q0), (0, .ref b)]) hx hb dL_law_40 hl (by decide) rfl (fun ls hl => ?_)
  refine lv_bipush (v := nI 7) hx hb dL_law_42 (by decide) ?_
  refine va_newa (atype := .long) (ty := .long) (N' := 7) (a0 := (7, .inr (.inl (fun _ => 0)))) hx hb (htl (.arrayClass .long) (by decide +kernel)) rfl hK hP hD hS hA (m_haJ 7) (by decide +kernel) (by decide +kernel) (by decide +kernel) (Nat.le_of_ble_eq_true rfl) (Nat.le_of_ble_eq_true rfl) dL_law_44 (fun x6 cJ9 H hK hP hD hS => ?_)
  have e9 : cJ = cJ9 := m_same hK 4 5 rfl rfl
  subst e9
  have hK : va_K D vwCl [(cM, .array .int), (cI, .int), (cQ, .object RX1), (cB, .boolean), (cJ, .long)] s := hK.sub [0, 1, 2, 3, 4] rfl
  refine lv_astore (lv' := [(8, .ref x6), (7, .ref x5), (6, .ref x4), (5, .ref x3), (4, .ref x2), (3, .ref x1), (2, .ref x0), (1, .ref q0), (0, .ref b)]) hx hb dL_law_46 hl (by decide) rfl (fun ls hl => ?_)
  refine lv_iconst (v := nI 3) hx hb dL_law_48 (by decide) ?_
  refine va_newa (atype := .int) (ty := .int) (N' := 3) (a0 := (3, .inl (fun _ => 0))) hx hb (htl (.arrayClass .int) (by decide +kernel)) rfl hK hP hD hS hA (m_haI 3) (by decide +kernel) (by decide +kernel) (by decide +kernel) (Nat.le_of_ble_eq_true rfl) (Nat.le_of_ble_eq_true rfl) dL_law_49 (fun x7 cI9 H hK hP hD hS => ?_)
  have e9 : cI = cI9 := m_same hK 1 5 rfl rfl
  subst e9
  have hK : va_K D vwCl [(cM, .array .int), (cI, .int), (cQ, .object RX1), (cB, .boolean), (cJ, .long)] s := hK.sub [0, 1, 2, 3, 4] rfl
  refine lv_astore (lv' := [(9, .ref x7), (8, .ref x6), (7, .ref x5), (6, .ref x4), (5, .ref x3), (4, .ref x2), (3, .ref x1), (2, .ref x0), (1, .ref q0), (0, .ref b)]) hx hb dL_law_51 hl (by decide) rfl (fun ls hl => ?_)
  rw [w_app8] at hP hD
  obtain ⟨σ, hσ9⟩ : ∃ σ, σ = (w_σ D q0 a r g1 w1 g2 w2 (fun k => [x0, x1, x2, x3, x4, x5, x6, x7].getD k 0) cI cJ cB cQ cM) := ⟨_, rfl⟩
  have hK : va_K σ.1 vwCl (q_tys σ) s := by
    rw [hσ9]
    exact hK.sub [1, 4, 3, 2, 0] rfl
  have hl : lv_has ls 21 [(0, .ref b), (1, .ref (σ.2.1 0)), (2, .ref (σ.2.1 69)), (3, .ref (σ.2.1 70)), (4, .ref (σ.2.1 71)), (5, .ref (σ.2.1 72)), (6, .ref (σ.2.1 73)), (7, .ref (σ.2.1 74)), (8, .ref (σ.2.1 19)), (9, .ref (σ.2.1 18))] := by
    rw [hσ9]
    exact lv_sub hl [9, 8, 7, 6, 5, 4, 3, 2, 1, 0] rfl
  obtain ⟨hP9, hi9, hσ⟩ := w_mem D q0 a r g1 w1 g2 w2 (fun k => [x0, x1, x2, x3, x4, x5, x6, x7].getD k 0) cI cJ cB cQ cM hP hD
  rw [← hσ9] at hP9 hi9 hσ
  clear hσ9
  have hK9 := w_K C0 (σ := σ) hK hi9 hσ
  have hbA : ¬ q_A σ s.heap.size b := fun h => h.elim (fun ⟨k, hk, e⟩ => by have := hσ k hk; omega) (fun h => by omega)
  have C : q_C σ p s m #[Value.ref b] c cL_law 21 RL wsL_law := ⟨hx, hb, hml, hown, htl, hK9⟩
  have X : w_X σ s b L xs := ⟨hX, hbl, hbA, hL⟩
  exact w_pre l hlf C X hr hlocks hσ (Nat.le_of_ble_eq_true rfl) (Nat.le_of_ble_eq_true rfl) H _ ls hP9 (va_S_mono hS (fun q h => Or.inr h)) hl
