theorem q_Wi_of {l : Launch} {y : MethodName} {ws ws' : List Cond} {rm : Room} {σ : q_E} {As : List Value} {V : q_V} {G : q_G} {mc ms : Nat} {cc : ByteArray} {maxL : Nat} {lv : List (Nat × Value)} {ty : FieldType} {hh : List (Nat × Nat × Nat × Nat)} {post : Int32 → q_V → q_G → Prop} (hy : plainName y.cls = true) (hw : ws = Cond.codeWith y cc maxL (some ty) hh :: ws') (hlen : (lg_sl As).length ≤ maxL) (hlv : lv_args 0 As = lv) (body : ∀ (p : Program) (e : Env) (s : State) (m : MethodId) (args : Array Value) (below : List Frame) (meth : Method) (c : Code) (Q : State → Prop), q_C σ p s m args c cc maxL y.cls ws → c.exceptionTable.toList.map (fun h => (h.startPc, h.endPc, h.handlerPc, h.catchType)) = hh → q_Ri σ p l e rm s m args below meth c Q maxL cc ty post mc ms → q_W σ p l e rm s m args below meth c Q maxL 0 0 V G lv 0 []) : q_Mi l y ws rm σ As V G post mc ms := by
  intro sz
  have hcw : ∀ {args : Array Value} {s : State}, (headSpec ws rm).pre.before args s = true → (Cond.codeWith y cc maxL (some ty) hh).before args s = true := fun h => atoms_spec (ws := ws) h _ (by rw [hw]; exact List.mem_cons_self)
  refine MetFree.of_bodyS (code := cc) (maxLocals := maxL) (ret := some ty) hy ?_ ?_
  · intro args s m h hn
    obtain ⟨m9, meth, c, hn9, h1, h2, h3, h4, -, h5, h6, -⟩ := Cond.codeWith_spec (hcw h)
    cases hn.symm.trans hn9
    exact ⟨meth, c, h1, h2, h3, h4, h5, h6⟩
  · intro p e s m args below meth c s₁ B hml hv _
    have hh0 : s₁.heap = s.heap := by rw [B.state]; rfl
    have ht : c.exceptionTable.toList.map (fun h => (h.startPc, h.endPc, h.handlerPc, h.catchType)) = hh := by
      obtain ⟨m9, meth9, c9, hn9, h1, h2, h3, h4, h5, -⟩ := Cond.codeWith_spec (hcw B.pre)
      cases B.named.symm.trans hn9
      cases Option.some.inj (h1.symm.trans B.method)
      cases Option.some.inj (h2.symm.trans (Stand.of_body B).code)
      exact h5
    obtain ⟨rfl, hsz, hP, hK⟩ := hv
    have hl := lv_entry As (n := maxL) hlen
    subst hsz
    rw [hlv] at hl
    have hb := body p e s m _ below meth c (MQ below (va_Qi (fun r (u : q_V × q_G) => post r u.1 u.2) (q_B σ) (q_A σ s.heap.size)) As.toArray s mc ms (q_A σ s.heap.size)) ⟨B.exec, B.bytes, hml, findClass_of_methodNamed B.named, atoms_spec (ws := ws) B.pre, hK⟩ ht (by
      intro cells slots V' G' lv' pc r hr hn hc hs hd H locs ls hP' hS' hl'
      refine W.widen (k := mc) (n := ms) hc hs ?_
      exact W.zret (v := r) B.exec B.bytes B.returns hn (fun t ht hW => ⟨⟨r, (V', G'), rfl, hr, by show va_P _ _ _ t.heap; rw [ht]; exact hP'⟩, hS'.F ht⟩) hS'.2.2 hd B.notSynchronized) s.heap [] _ hP va_S.rf hl
    rw [← lg_entry_eq] at hb
    obtain ⟨t, a1, o, b1, b2, b3⟩ := hb s₁ hh0 (Stand.of_body B)
    exact ⟨t, o, a1, b1, b2, ⟨b3.1, b3.2⟩⟩
section QCATCH
variable {σ : q_E} {p : Program} {l : Launch} {e : Env} {R : Room} {s : State} {m : MethodId} {args : Array Value} {below : List Frame} {meth : Method} {c : Code} {Q : State → Prop} {nL cells slots : Nat} {V : q_V} {G : q_G} {lv : List (Nat × Value)} {pc : Nat} {rest : List Value} {cc : ByteArray} {own : String} {Ts : List Cond}
theorem q_catch (C : q_C σ p s m args c cc nL own Ts) {hh : List (Nat × Nat × Nat × Nat)} (htab : c.exceptionTable.toList.map (fun h => (h.startPc, h.endPc, h.handlerPc, h.catchType)) = hh) (pre : List ((Nat × Nat × Nat × Nat) × String)) (a b t ct : Nat) (E : String) (suf : List (Nat × Nat × Nat × Nat)) (hsp : hh = pre.map Prod.fst ++ (a, b, t, ct) :: suf)
    (hp : ∀ z ∈ pre, z.1.2.2.2 ≠ 0 ∧ Cond.classLink own z.1.2.2.2 z.2 ∈ Ts ∧ (E, z.2) ∈ q_nc) (ha : a ≤ pc) (hb : pc < b) (hct : ct ≠ 0) (hl : Cond.classLink own ct E ∈ Ts) (hc : Cond.castable E E ∈ q_nx) (kk : ∀ q9 : Addr, q_W σ p l e R s m args below meth c Q nL cells slots V G lv t [.ref q9]) : q_X σ p l e R s m args below meth c Q nL cells slots E V G lv pc rest := by
  intro H locs ls ce q9 hP hS hl9 h1 h2 h3
  rw [hsp] at htab
  obtain ⟨L1, L2, e1, e2, e3⟩ := List.map_eq_append_iff.mp htab
  obtain ⟨x, L3, e4, e5, e6⟩ := List.map_eq_cons_iff.mp e3
  have ex1 : x.startPc = a := congrArg (fun z => z.1) e5
  have ex2 : x.endPc = b := congrArg (fun z => z.2.1) e5
  have ex3 : x.handlerPc = t := congrArg (fun z => z.2.2.1) e5
  have ex4 : x.catchType = ct := congrArg (fun z => z.2.2.2) e5
  refine vx_catch (own := own) (name := E) C.2.2.2.1 L1 x L3 (by rw [e1, e4]) (fun z hz => ?_) (by unfold covers; rw [ex1, ex2]; simp [ha, hb]) (by rw [ex4]; exact hct) (by rw [ex4]; exact C.2.2.2.2.1 _ hl) (va_Nw.use (q_nx_tab _ hc) (C.2.2.2.2.2.2.2.1 _ (q_nx_nw _ hc))) h1 h2 h3 (by rw [ex3]; exact kk q9 H locs ls hP hS hl9)
  have hm : (z.startPc, z.endPc, z.handlerPc, z.catchType) ∈ pre.map Prod.fst := by rw [← e2]; exact List.mem_map.mpr ⟨z, hz, rfl⟩
  obtain ⟨w, hw, ew⟩ := List.mem_map.mp hm
  obtain ⟨w1, w2, w3⟩ := hp w hw
  have ew4 : w.1.2.2.2 = z.catchType := congrArg (fun z => z.2.2.2) ew
  rw [ew4] at w1 w2
  exact Or.inr ⟨w1, w.2, C.2.2.2.2.1 _ w2, C.2.2.2.2.2.2.2.2.2.2.2 _ w3⟩
end QCATCH
theorem q_xc1 {a : String} {k : Nat} {E : String} (h : q_xc [a] k E) : k = 1 ∧ a = E := by
  obtain ⟨h1, h2⟩ := h
  match k, h1, h2 with
  | 1, _, h2 => exact ⟨rfl, Option.some.inj h2⟩
  | k + 2, _, h2 => cases h2
theorem q_xc2 {a b : String} {k : Nat} {E : String} (h : q_xc [a, b] k E) : (k = 1 ∧ a = E) ∨ (k = 2 ∧ b = E) := by
  obtain ⟨h1, h2⟩ := h
  match k, h1, h2 with
  | 1, _, h2 => exact Or.inl ⟨rfl, Option.some.inj h2⟩
  | 2, _, h2 => exact Or.inr ⟨rfl, Option.some.inj h2⟩
  | k + 3, _, h2 => cases h2
theorem q_xc3 {a b d : String} {k : Nat} {E : String} (h : q_xc [a, b, d] k E) : (k = 1 ∧ a = E) ∨ (k = 2 ∧ b = E) ∨ (k = 3 ∧ d = E) := by
  obtain ⟨h1, h2⟩ := h
  match k, h1, h2 with
  | 1, _, h2 => exact Or.inl ⟨rfl, Option.some.inj h2⟩
  | 2, _, h2 => exact Or.inr (Or.inl ⟨rfl, Option.some.inj h2⟩)
  | 3, _, h2 => exact Or.inr (Or.inr ⟨rfl, Option.some.inj h2⟩)
  | k + 4, _, h2 => cases h2
abbrev rL_bring : Room := { frames := 8, cells := 6, slots := 36, locals := 136 }
set_option maxHeartbeats 4000000 in
set_option maxRecDepth 100000 in
/-- bring, the law's call -/
theorem kL_bring (l : Launch) (σ : q_E) (V : q_V) (G : q_G) (hlf : l.stackTraces = false)  (x y z : Int32) : q_Mi l yL_bring wsL_bring rL_bring σ [.ref (σ.2.1 0), .int x, .int y, .int z, .ref (σ.2.1 18)] V G (fun k V' G' => (∃ r V1 G1, (fun r V' G' => (q_c3 (q_ok 7 x ∧ q_ok 8 y) (¬ z < nI 1 ∧ ¬ nI 1000 < z) (V (20 + q_n x) (q_n y) + z ≤ nI 100000)) = 0 ∧ (V (20 + q_n x) (q_n y) + z) = r ∧ (q_up (q_up V (20 + q_n x) (q_n y) (V (20 + q_n x) (q_n y) + z)) 3 (q_n y) (V 3 (q_n y) + z)) = V' ∧ G = G') r V1 G1 ∧ (0 : Int32) = k ∧ V1 = V' ∧ q_upL G1 18 0 r.toInt64 = G') ∨ (∃ E, (fun E V' G' => q_xc [xI, xA, xS] (q_c3 (q_ok 7 x ∧ q_ok 8 y) (¬ z < nI 1 ∧ ¬ nI 1000 < z) (V (20 + q_n x) (q_n y) + z ≤ nI 100000)) E ∧ V = V' ∧ G = G') E V' G' ∧ nI (q_c3 (q_ok 7 x ∧ q_ok 8 y) (¬ z < nI 1 ∧ ¬ nI 1000 < z) (V (20 + q_n x) (q_n y) + z ≤ nI 100000)) = k)) 6 36 := by
  refine q_Wi_of (cc := cL_bring) (maxL := 6) (lv := [(0, .ref (σ.2.1 0)), (1, .int x), (2, .int y), (3, .int z), (4, .ref (σ.2.1 18))]) (by decide +kernel) rfl (Nat.le_of_ble_eq_true rfl) rfl ?_
  intro p e s m args below meth c Q C htab hR
  refine q_aload C dL_bring_0 4 rfl ?_
  refine q_iconst C (nI 0) dL_bring_2 (by decide) ?_
  refine q_aload_n C dL_bring_3 rfl 0 rfl ?_
  refine q_iload_n C dL_bring_4 rfl 1 rfl ?_
  refine q_iload_n C dL_bring_5 rfl 2 rfl ?_
  refine q_iload_n C dL_bring_6 rfl 3 rfl ?_
  refine q_xcallVi C (As := [.int x, .int y, .int z]) (rest := [.int (nI 0), .ref (σ.2.1 18)]) (k := 0) (by omega) q_enBP rfl rfl (kX2_bring l σ V G hlf x y z) 3 gL_bring_X2_bring rfl rfl rfl (by decide +kernel) ⟨Nat.le_of_ble_eq_true rfl, Nat.le_of_ble_eq_true rfl⟩ dL_bring_7 rfl (Nat.le_of_ble_eq_true rfl) ⟨Nat.le_of_ble_eq_true rfl, Nat.le_of_ble_eq_true rfl⟩ (fun E_7 V_1 G_2 hx_7 => ?_) (fun r_7 V_1 G_2 hq_7 => ?_)
  · skip
    rcases q_xc3 hx_7.1 with ⟨hcd, rfl⟩ | ⟨hcd, rfl⟩ | ⟨hcd, rfl⟩
    · skip
      refine q_catch C htab [] 0 12 15 13 "java/lang/IndexOutOfBoundsException" [(0, 12, 19, 15), (0, 12, 23, 17)] rfl (by decide +kernel) (by decide) (by decide) (by decide) (by decide +kernel) (by decide +kernel) (fun q9 => ?_)
      refine q_astore C [(5, .ref q9), (0, .ref (σ.2.1 0)), (1, .int x), (2, .int y), (3, .int z), (4, .ref (σ.2.1 18))] dL_bring_15 (by decide) rfl ?_
      refine q_iconst C (nI 1) dL_bring_17 (by decide) ?_
      refine hR _ _ _ _ _ _ _ ?_ rfl (Nat.le_of_ble_eq_true rfl) (Nat.le_of_ble_eq_true rfl) dL_bring_18
      exact Or.inr ⟨_, hx_7, congrArg nI hcd⟩
    · skip
      refine q_catch C htab [((0, 12, 15, 13), "java/lang/IndexOutOfBoundsException")] 0 12 19 15 "java/lang/IllegalArgumentException" [(0, 12, 23, 17)] rfl (by decide +kernel) (by decide) (by decide) (by decide) (by decide +kernel) (by decide +kernel) (fun q9 => ?_)
      refine q_astore C [(5, .ref q9), (0, .ref (σ.2.1 0)), (1, .int x), (2, .int y), (3, .int z), (4, .ref (σ.2.1 18))] dL_bring_19 (by decide) rfl ?_
      refine q_iconst C (nI 2) dL_bring_21 (by decide) ?_
      refine hR _ _ _ _ _ _ _ ?_ rfl (Nat.le_of_ble_eq_true rfl) (Nat.le_of_ble_eq_true rfl) dL_bring_22
      exact Or.inr ⟨_, hx_7, congrArg nI hcd⟩
    · skip
      refine q_catch C htab [((0, 12, 15, 13), "java/lang/IndexOutOfBoundsException"), ((0, 12, 19, 15), "java/lang/IllegalArgumentException")] 0 12 23 17 "java/lang/IllegalStateException" [] rfl (by decide +kernel) (by decide) (by decide) (by decide) (by decide +kernel) (by decide +kernel) (fun q9 => ?_)
      refine q_astore C [(5, .ref q9), (0, .ref (σ.2.1 0)), (1, .int x), (2, .int y), (3, .int z), (4, .ref (σ.2.1 18))] dL_bring_23 (by decide) rfl ?_
      refine q_iconst C (nI 3) dL_bring_25 (by decide) ?_
      refine hR _ _ _ _ _ _ _ ?_ rfl (Nat.le_of_ble_eq_true rfl) (Nat.le_of_ble_eq_true rfl) dL_bring_26
      exact Or.inr ⟨_, hx_7, congrArg nI hcd⟩
  refine q_i2l C dL_bring_10 ?_
  refine q_lastN C (k := 18) (n := 1) ⟨by decide, by decide, by decide⟩ (by omega) (by decide) dL_bring_11 ?_
  refine q_goto C 27 dL_bring_12 (by decide) ?_
  refine q_iconst C (nI 0) dL_bring_27 (by decide) ?_
  refine hR _ _ _ _ _ _ _ ?_ rfl (Nat.le_of_ble_eq_true rfl) (Nat.le_of_ble_eq_true rfl) dL_bring_28
  exact Or.inl ⟨_, _, _, hq_7, rfl, rfl, rfl⟩
abbrev rL_lay : Room := { frames := 8, cells := 6, slots := 36, locals := 137 }
set_option maxHeartbeats 4000000 in
set_option maxRecDepth 100000 in
/-- lay, the law's call -/
theorem kL_lay (l : Launch) (σ : q_E) (V : q_V) (G : q_G) (hlf : l.stackTraces = false)  (x y z : Int32) : q_Mi l yL_lay wsL_lay rL_lay σ [.ref (σ.2.1 0), .int x, .int y, .int z, .ref (σ.2.1 18)] V G (fun k V' G' => (∃ r V1 G1, (fun r V' G' => (q_c3 (q_ok 7 x ∧ q_ok 8 y) (¬ z < -1000 ∧ ¬ nI 1000 < z) (¬ V (20 + q_n x) (q_n y) - z < 0 ∧ ¬ nI 100000 < V (20 + q_n x) (q_n y) - z ∧ 0 ≤ V 2 (q_n y) + z)) = 0 ∧ (V 2 (q_n y) + z) = r ∧ (q_up (q_up V (20 + q_n x) (q_n y) (V (20 + q_n x) (q_n y) - z)) 2 (q_n y) (V 2 (q_n y) + z)) = V' ∧ G = G') r V1 G1 ∧ (0 : Int32) = k ∧ V1 = V' ∧ q_upL G1 18 0 r.toInt64 = G') ∨ (∃ E, (fun E V' G' => q_xc [xI, xA, xS] (q_c3 (q_ok 7 x ∧ q_ok 8 y) (¬ z < -1000 ∧ ¬ nI 1000 < z) (¬ V (20 + q_n x) (q_n y) - z < 0 ∧ ¬ nI 100000 < V (20 + q_n x) (q_n y) - z ∧ 0 ≤ V 2 (q_n y) + z)) E ∧ V = V' ∧ G = G') E V' G' ∧ nI (q_c3 (q_ok 7 x ∧ q_ok 8 y) (¬ z < -1000 ∧ ¬ nI 1000 < z) (¬ V (20 + q_n x) (q_n y) - z < 0 ∧ ¬ nI 100000 < V (20 + q_n x) (q_n y) - z ∧ 0 ≤ V 2 (q_n y) + z)) = k)) 6 36 := by
  refine q_Wi_of (cc := cL_lay) (maxL := 6) (lv := [(0, .ref (σ.2.1 0)), (1, .int x), (2, .int y), (3, .int z), (4, .ref (σ.2.1 18))]) (by decide +kernel) rfl (Nat.le_of_ble_eq_true rfl) rfl ?_
  intro p e s m args below meth c Q C htab hR
  refine q_aload C dL_lay_0 4 rfl ?_
  refine q_iconst C (nI 0) dL_lay_2 (by decide) ?_
  refine q_aload_n C dL_lay_3 rfl 0 rfl ?_
  refine q_iload_n C dL_lay_4 rfl 1 rfl ?_
  refine q_iload_n C dL_lay_5 rfl 2 rfl ?_
  refine q_iload_n C dL_lay_6 rfl 3 rfl ?_
  refine q_xcallVi C (As := [.int x, .int y, .int z]) (rest := [.int (nI 0), .ref (σ.2.1 18)]) (k := 0) (by omega) q_enBP rfl rfl (kX2_lay l σ V G hlf x y z) 3 gL_lay_X2_lay rfl rfl rfl (by decide +kernel) ⟨Nat.le_of_ble_eq_true rfl, Nat.le_of_ble_eq_true rfl⟩ dL_lay_7 rfl (Nat.le_of_ble_eq_true rfl) ⟨Nat.le_of_ble_eq_true rfl, Nat.le_of_ble_eq_true rfl⟩ (fun E_7 V_1 G_2 hx_7 => ?_) (fun r_7 V_1 G_2 hq_7 => ?_)
  · skip
    rcases q_xc3 hx_7.1 with ⟨hcd, rfl⟩ | ⟨hcd, rfl⟩ | ⟨hcd, rfl⟩
    · skip
      refine q_catch C htab [] 0 12 15 13 "java/lang/IndexOutOfBoundsException" [(0, 12, 19, 15), (0, 12, 23, 17)] rfl (by decide +kernel) (by decide) (by decide) (by decide) (by decide +kernel) (by decide +kernel) (fun q9 => ?_)
      refine q_astore C [(5, .ref q9), (0, .ref (σ.2.1 0)), (1, .int x), (2, .int y), (3, .int z), (4, .ref (σ.2.1 18))] dL_lay_15 (by decide) rfl ?_
      refine q_iconst C (nI 1) dL_lay_17 (by decide) ?_
      refine hR _ _ _ _ _ _ _ ?_ rfl (Nat.le_of_ble_eq_true rfl) (Nat.le_of_ble_eq_true rfl) dL_lay_18
      exact Or.inr ⟨_, hx_7, congrArg nI hcd⟩
    · skip
      refine q_catch C htab [((0, 12, 15, 13), "java/lang/IndexOutOfBoundsException")] 0 12 19 15 "java/lang/IllegalArgumentException" [(0, 12, 23, 17)] rfl (by decide +kernel) (by decide) (by decide) (by decide) (by decide +kernel) (by decide +kernel) (fun q9 => ?_)
      refine q_astore C [(5, .ref q9), (0, .ref (σ.2.1 0)), (1, .int x), (2, .int y), (3, .int z), (4, .ref (σ.2.1 18))] dL_lay_19 (by decide) rfl ?_
      refine q_iconst C (nI 2) dL_lay_21 (by decide) ?_
      refine hR _ _ _ _ _ _ _ ?_ rfl (Nat.le_of_ble_eq_true rfl) (Nat.le_of_ble_eq_true rfl) dL_lay_22
      exact Or.inr ⟨_, hx_7, congrArg nI hcd⟩
    · skip
      refine q_catch C htab [((0, 12, 15, 13), "java/lang/IndexOutOfBoundsException"), ((0, 12, 19, 15), "java/lang/IllegalArgumentException")] 0 12 23 17 "java/lang/IllegalStateException" [] rfl (by decide +kernel) (by decide) (by decide) (by decide) (by decide +kernel) (by decide +kernel) (fun q9 => ?_)
      refine q_astore C [(5, .ref q9), (0, .ref (σ.2.1 0)), (1, .int x), (2, .int y), (3, .int z), (4, .ref (σ.2.1 18))] dL_lay_23 (by decide) rfl ?_
      refine q_iconst C (nI 3) dL_lay_25 (by decide) ?_
      refine hR _ _ _ _ _ _ _ ?_ rfl (Nat.le_of_ble_eq_true rfl) (Nat.le_of_ble_eq_true rfl) dL_lay_26
      exact Or.inr ⟨_, hx_7, congrArg nI hcd⟩
  refine q_i2l C dL_lay_10 ?_
  refine q_lastN C (k := 18) (n := 1) ⟨by decide, by decide, by decide⟩ (by omega) (by decide) dL_lay_11 ?_
  refine q_goto C 27 dL_lay_12 (by decide) ?_
  refine q_iconst C (nI 0) dL_lay_27 (by decide) ?_
  refine hR _ _ _ _ _ _ _ ?_ rfl (Nat.le_of_ble_eq_true rfl) (Nat.le_of_ble_eq_true rfl) dL_lay_28
  exact Or.inl ⟨_, _, _, hq_7, rfl, rfl, rfl⟩
abbrev rL_hand : Room := { frames := 8, cells := 6, slots := 36, locals := 132 }
set_option maxHeartbeats 4000000 in
set_option maxRecDepth 100000 in
/-- hand, the law's call -/
theorem kL_hand (l : Launch) (σ : q_E) (V : q_V) (G : q_G) (hlf : l.stackTraces = false)  (x y : Int32) : q_Mi l yL_hand wsL_hand rL_hand σ [.ref (σ.2.1 0), .int x, .int y, .ref (σ.2.1 18)] V G (fun k V' G' => (∃ r V1 G1, (fun r V' G' => (q_c1 (q_ok 7 x ∧ q_ok 8 y)) = 0 ∧ (V (20 + q_n x) (q_n y)) = r ∧ V = V' ∧ G = G') r V1 G1 ∧ (0 : Int32) = k ∧ V1 = V' ∧ q_upL G1 18 0 r.toInt64 = G') ∨ (∃ E, (fun E V' G' => q_xc [xI] (q_c1 (q_ok 7 x ∧ q_ok 8 y)) E ∧ V = V' ∧ G = G') E V' G' ∧ nI (q_c1 (q_ok 7 x ∧ q_ok 8 y)) = k)) 6 36 := by
  refine q_Wi_of (cc := cL_hand) (maxL := 5) (lv := [(0, .ref (σ.2.1 0)), (1, .int x), (2, .int y), (3, .ref (σ.2.1 18))]) (by decide +kernel) rfl (Nat.le_of_ble_eq_true rfl) rfl ?_
  intro p e s m args below meth c Q C htab hR
  refine q_aload_n C dL_hand_0 rfl 3 rfl ?_
  refine q_iconst C (nI 0) dL_hand_1 (by decide) ?_
  refine q_aload_n C dL_hand_2 rfl 0 rfl ?_
  refine q_iload_n C dL_hand_3 rfl 1 rfl ?_
  refine q_iload_n C dL_hand_4 rfl 2 rfl ?_
  refine q_xcallVi C (As := [.int x, .int y]) (rest := [.int (nI 0), .ref (σ.2.1 18)]) (k := 0) (by omega) q_enBP rfl rfl (kX2_hand l σ V G hlf x y) 2 gL_hand_X2_hand rfl rfl rfl (by decide +kernel) ⟨Nat.le_of_ble_eq_true rfl, Nat.le_of_ble_eq_true rfl⟩ dL_hand_5 rfl (Nat.le_of_ble_eq_true rfl) ⟨Nat.le_of_ble_eq_true rfl, Nat.le_of_ble_eq_true rfl⟩ (fun E_5 V_1 G_2 hx_5 => ?_) (fun r_5 V_1 G_2 hq_5 => ?_)
  · skip
    rcases q_xc1 hx_5.1 with ⟨hcd, rfl⟩
    · skip
      refine q_catch C htab [] 0 10 13 13 "java/lang/IndexOutOfBoundsException" [] rfl (by decide +kernel) (by decide) (by decide) (by decide) (by decide +kernel) (by decide +kernel) (fun q9 => ?_)
      refine q_astore C [(4, .ref q9), (0, .ref (σ.2.1 0)), (1, .int x), (2, .int y), (3, .ref (σ.2.1 18))] dL_hand_13 (by decide) rfl ?_
      refine q_iconst C (nI 1) dL_hand_15 (by decide) ?_
      refine hR _ _ _ _ _ _ _ ?_ rfl (Nat.le_of_ble_eq_true rfl) (Nat.le_of_ble_eq_true rfl) dL_hand_16
      exact Or.inr ⟨_, hx_5, congrArg nI hcd⟩
  refine q_i2l C dL_hand_8 ?_
  refine q_lastN C (k := 18) (n := 1) ⟨by decide, by decide, by decide⟩ (by omega) (by decide) dL_hand_9 ?_
  refine q_goto C 17 dL_hand_10 (by decide) ?_
  refine q_iconst C (nI 0) dL_hand_17 (by decide) ?_
  refine hR _ _ _ _ _ _ _ ?_ rfl (Nat.le_of_ble_eq_true rfl) (Nat.le_of_ble_eq_true rfl) dL_hand_18
  exact Or.inl ⟨_, _, _, hq_5, rfl, rfl, rfl⟩
abbrev rL_beads : Room := { frames := 8, cells := 6, slots := 36, locals := 133 }
set_option maxHeartbeats 4000000 in
set_option maxRecDepth 100000 in
/-- beads, the law's call -/
theorem kL_beads (l : Launch) (σ : q_E) (V : q_V) (G : q_G) (hlf : l.stackTraces = false) {n : Nat} (hn2 : n ≤ 12) (hp : q_cpats V n) (hbl : q_cbelts V n) (y : Int32) : q_Mi l yL_beads wsL_beads rL_beads σ [.ref (σ.2.1 0), .int y, .ref (σ.2.1 18)] V G (fun k V' G' => (∃ r V1 G1, (fun r V' G' => (q_c1 (q_ok 8 y)) = 0 ∧ (q_cbs V (q_n y) 20) = r ∧ V = V' ∧ G = G') r V1 G1 ∧ (0 : Int32) = k ∧ V1 = V' ∧ q_upL G1 18 0 r.toInt64 = G') ∨ (∃ E, (fun E V' G' => q_xc [xI] (q_c1 (q_ok 8 y)) E ∧ V = V' ∧ G = G') E V' G' ∧ nI (q_c1 (q_ok 8 y)) = k)) 6 36 := by
  refine q_Wi_of (cc := cL_beads) (maxL := 4) (lv := [(0, .ref (σ.2.1 0)), (1, .int y), (2, .ref (σ.2.1 18))]) (by decide +kernel) rfl (Nat.le_of_ble_eq_true rfl) rfl ?_
  intro p e s m args below meth c Q C htab hR
  refine q_aload_n C dL_beads_0 rfl 2 rfl ?_
  refine q_iconst C (nI 0) dL_beads_1 (by decide) ?_
  refine q_aload_n C dL_beads_2 rfl 0 rfl ?_
  refine q_iload_n C dL_beads_3 rfl 1 rfl ?_
  refine q_xcallVi C (As := [.int y]) (rest := [.int (nI 0), .ref (σ.2.1 18)]) (k := 0) (by omega) q_enBP rfl rfl (kX2_beads l σ V G hlf hn2 hp hbl y) 1 gL_beads_X2_beads rfl rfl rfl (by decide +kernel) ⟨Nat.le_of_ble_eq_true rfl, Nat.le_of_ble_eq_true rfl⟩ dL_beads_4 rfl (Nat.le_of_ble_eq_true rfl) ⟨Nat.le_of_ble_eq_true rfl, Nat.le_of_ble_eq_true rfl⟩ (fun E_4 V_1 G_2 hx_4 => ?_) (fun r_4 V_1 G_2 hq_4 => ?_)
  · skip
    rcases q_xc1 hx_4.1 with ⟨hcd, rfl⟩
    · skip
      refine q_catch C htab [] 0 9 12 13 "java/lang/IndexOutOfBoundsException" [] rfl (by decide +kernel) (by decide) (by decide) (by decide) (by decide +kernel) (by decide +kernel) (fun q9 => ?_)
      refine q_astore_n C [(3, .ref q9), (0, .ref (σ.2.1 0)), (1, .int y), (2, .ref (σ.2.1 18))] dL_beads_12 rfl (by decide) rfl ?_
      refine q_iconst C (nI 1) dL_beads_13 (by decide) ?_
      refine hR _ _ _ _ _ _ _ ?_ rfl (Nat.le_of_ble_eq_true rfl) (Nat.le_of_ble_eq_true rfl) dL_beads_14
      exact Or.inr ⟨_, hx_4, congrArg nI hcd⟩
  refine q_i2l C dL_beads_7 ?_
  refine q_lastN C (k := 18) (n := 1) ⟨by decide, by decide, by decide⟩ (by omega) (by decide) dL_beads_8 ?_
  refine q_goto C 15 dL_beads_9 (by decide) ?_
  refine q_iconst C (nI 0) dL_beads_15 (by decide) ?_
  refine hR _ _ _ _ _ _ _ ?_ rfl (Nat.le_of_ble_eq_true rfl) (Nat.le_of_ble_eq_true rfl) dL_beads_16
  exact Or.inl ⟨_, _, _, hq_4, rfl, rfl, rfl⟩
abbrev rL_brought : Room := { frames := 8, cells := 6, slots := 36, locals := 131 }
set_option maxHeartbeats 4000000 in
set_option maxRecDepth 100000 in
/-- brought, the law's call -/
theorem kL_brought (l : Launch) (σ : q_E) (V : q_V) (G : q_G) (hlf : l.stackTraces = false)  (y : Int32) : q_Mi l yL_brought wsL_brought rL_brought σ [.ref (σ.2.1 0), .int y, .ref (σ.2.1 18)] V G (fun k V' G' => (∃ r V1 G1, (fun r V' G' => (q_c1 (q_ok 8 y)) = 0 ∧ (V 3 (q_n y)) = r ∧ V = V' ∧ G = G') r V1 G1 ∧ (0 : Int32) = k ∧ V1 = V' ∧ q_upL G1 18 0 r.toInt64 = G') ∨ (∃ E, (fun E V' G' => q_xc [xI] (q_c1 (q_ok 8 y)) E ∧ V = V' ∧ G = G') E V' G' ∧ nI (q_c1 (q_ok 8 y)) = k)) 6 36 := by
  refine q_Wi_of (cc := cL_brought) (maxL := 4) (lv := [(0, .ref (σ.2.1 0)), (1, .int y), (2, .ref (σ.2.1 18))]) (by decide +kernel) rfl (Nat.le_of_ble_eq_true rfl) rfl ?_
  intro p e s m args below meth c Q C htab hR
  refine q_aload_n C dL_brought_0 rfl 2 rfl ?_
  refine q_iconst C (nI 0) dL_brought_1 (by decide) ?_
  refine q_aload_n C dL_brought_2 rfl 0 rfl ?_
  refine q_iload_n C dL_brought_3 rfl 1 rfl ?_
  refine q_xcallVi C (As := [.int y]) (rest := [.int (nI 0), .ref (σ.2.1 18)]) (k := 0) (by omega) q_enBP rfl rfl (kX2_brought l σ V G hlf y) 1 gL_brought_X2_brought rfl rfl rfl (by decide +kernel) ⟨Nat.le_of_ble_eq_true rfl, Nat.le_of_ble_eq_true rfl⟩ dL_brought_4 rfl (Nat.le_of_ble_eq_true rfl) ⟨Nat.le_of_ble_eq_true rfl, Nat.le_of_ble_eq_true rfl⟩ (fun E_4 V_1 G_2 hx_4 => ?_) (fun r_4 V_1 G_2 hq_4 => ?_)
  · skip
    rcases q_xc1 hx_4.1 with ⟨hcd, rfl⟩
    · skip
      refine q_catch C htab [] 0 9 12 13 "java/lang/IndexOutOfBoundsException" [] rfl (by decide +kernel) (by decide) (by decide) (by decide) (by decide +kernel) (by decide +kernel) (fun q9 => ?_)
      refine q_astore_n C [(3, .ref q9), (0, .ref (σ.2.1 0)), (1, .int y), (2, .ref (σ.2.1 18))] dL_brought_12 rfl (by decide) rfl ?_
      refine q_iconst C (nI 1) dL_brought_13 (by decide) ?_
      refine hR _ _ _ _ _ _ _ ?_ rfl (Nat.le_of_ble_eq_true rfl) (Nat.le_of_ble_eq_true rfl) dL_brought_14
      exact Or.inr ⟨_, hx_4, congrArg nI hcd⟩
  refine q_i2l C dL_brought_7 ?_
  refine q_lastN C (k := 18) (n := 1) ⟨by decide, by decide, by decide⟩ (by omega) (by decide) dL_brought_8 ?_
  refine q_goto C 15 dL_brought_9 (by decide) ?_
  refine q_iconst C (nI 0) dL_brought_15 (by decide) ?_
  refine hR _ _ _ _ _ _ _ ?_ rfl (Nat.le_of_ble_eq_true rfl) (Nat.le_of_ble_eq_true rfl) dL_brought_16
  exact Or.inl ⟨_, _, _, hq_4, rfl, rfl, rfl⟩
abbrev rL_draft : Room := { frames := 8, cells := 6, slots := 36, locals := 134 }
set_option maxHeartbeats 4000000 in
set_option maxRecDepth 100000 in
/-- draft, the law's call -/
theorem kL_draft (l : Launch) (σ : q_E) (V : q_V) (G : q_G) (hlf : l.stackTraces = false)  (x y : Int32) : q_Mi l yL_draft wsL_draft rL_draft σ [.ref (σ.2.1 0), .int x, .int y, .ref (σ.2.1 18)] V G (fun k V' G' => (∃ r V1 G1, (fun r V' G' => (q_c1 ((¬ x < nI 1 ∧ ¬ nI 8 < x) ∧ (¬ y < nI 1 ∧ ¬ nI 6 < y))) = 0 ∧ (x * y) = r ∧ (q_fill (q_up (q_up V (27 + 0) 1 x) (27 + 0) 2 y) (48 + 0) 0 48) = V' ∧ G = G') r V1 G1 ∧ (0 : Int32) = k ∧ V1 = V' ∧ q_upL G1 18 0 r.toInt64 = G') ∨ (∃ E, (fun E V' G' => q_xc [xA] (q_c1 ((¬ x < nI 1 ∧ ¬ nI 8 < x) ∧ (¬ y < nI 1 ∧ ¬ nI 6 < y))) E ∧ V = V' ∧ G = G') E V' G' ∧ nI (q_c1 ((¬ x < nI 1 ∧ ¬ nI 8 < x) ∧ (¬ y < nI 1 ∧ ¬ nI 6 < y))) = k)) 6 36 := by
  refine q_Wi_of (cc := cL_draft) (maxL := 5) (lv := [(0, .ref (σ.2.1 0)), (1, .int x), (2, .int y), (3, .ref (σ.2.1 18))]) (by decide +kernel) rfl (Nat.le_of_ble_eq_true rfl) rfl ?_
  intro p e s m args below meth c Q C htab hR
  refine q_aload_n C dL_draft_0 rfl 3 rfl ?_
  refine q_iconst C (nI 0) dL_draft_1 (by decide) ?_
  refine q_aload_n C dL_draft_2 rfl 0 rfl ?_
  refine q_iload_n C dL_draft_3 rfl 1 rfl ?_
  refine q_iload_n C dL_draft_4 rfl 2 rfl ?_
  refine q_xcallVi C (As := [.int x, .int y]) (rest := [.int (nI 0), .ref (σ.2.1 18)]) (k := 0) (by omega) q_enBP rfl rfl (kX2_draft l σ V G hlf x y) 2 gL_draft_X2_draft rfl rfl rfl (by decide +kernel) ⟨Nat.le_of_ble_eq_true rfl, Nat.le_of_ble_eq_true rfl⟩ dL_draft_5 rfl (Nat.le_of_ble_eq_true rfl) ⟨Nat.le_of_ble_eq_true rfl, Nat.le_of_ble_eq_true rfl⟩ (fun E_5 V_1 G_2 hx_5 => ?_) (fun r_5 V_1 G_2 hq_5 => ?_)
  · skip
    rcases q_xc1 hx_5.1 with ⟨hcd, rfl⟩
    · skip
      refine q_catch C htab [] 0 10 13 15 "java/lang/IllegalArgumentException" [] rfl (by decide +kernel) (by decide) (by decide) (by decide) (by decide +kernel) (by decide +kernel) (fun q9 => ?_)
      refine q_astore C [(4, .ref q9), (0, .ref (σ.2.1 0)), (1, .int x), (2, .int y), (3, .ref (σ.2.1 18))] dL_draft_13 (by decide) rfl ?_
      refine q_iconst C (nI 1) dL_draft_15 (by decide) ?_
      refine hR _ _ _ _ _ _ _ ?_ rfl (Nat.le_of_ble_eq_true rfl) (Nat.le_of_ble_eq_true rfl) dL_draft_16
      exact Or.inr ⟨_, hx_5, congrArg nI hcd⟩
  refine q_i2l C dL_draft_8 ?_
  refine q_lastN C (k := 18) (n := 1) ⟨by decide, by decide, by decide⟩ (by omega) (by decide) dL_draft_9 ?_
  refine q_goto C 17 dL_draft_10 (by decide) ?_
  refine q_iconst C (nI 0) dL_draft_17 (by decide) ?_
  refine hR _ _ _ _ _ _ _ ?_ rfl (Nat.le_of_ble_eq_true rfl) (Nat.le_of_ble_eq_true rfl) dL_draft_18
  exact Or.inl ⟨_, _, _, hq_5, rfl, rfl, rfl⟩
abbrev rL_bead : Room := { frames := 8, cells := 6, slots := 36, locals := 134 }
set_option maxHeartbeats 4000000 in
set_option maxRecDepth 100000 in
/-- bead, the law's call -/
theorem kL_bead (l : Launch) (σ : q_E) (V : q_V) (G : q_G) (hlf : l.stackTraces = false) {w h : Nat} (hd : q_gok V 0 w h) (x y z : Int32) : q_Mi l yL_bead wsL_bead rL_bead σ [.ref (σ.2.1 0), .int x, .int y, .int z, .ref (σ.2.1 18)] V G (fun k V' G' => (∃ r V1 G1, (fun r V' G' => (q_c1 (q_ok w x ∧ q_ok h y ∧ q_ok 8 z)) = 0 ∧ (V (48 + 0) (q_n y * w + q_n x)) = r ∧ (q_up V (48 + 0) (q_n y * w + q_n x) z) = V' ∧ G = G') r V1 G1 ∧ (0 : Int32) = k ∧ V1 = V' ∧ q_upL G1 18 0 r.toInt64 = G') ∨ (∃ E, (fun E V' G' => q_xc [xI] (q_c1 (q_ok w x ∧ q_ok h y ∧ q_ok 8 z)) E ∧ V = V' ∧ G = G') E V' G' ∧ nI (q_c1 (q_ok w x ∧ q_ok h y ∧ q_ok 8 z)) = k)) 6 36 := by
  refine q_Wi_of (cc := cL_bead) (maxL := 6) (lv := [(0, .ref (σ.2.1 0)), (1, .int x), (2, .int y), (3, .int z), (4, .ref (σ.2.1 18))]) (by decide +kernel) rfl (Nat.le_of_ble_eq_true rfl) rfl ?_
  intro p e s m args below meth c Q C htab hR
  refine q_aload C dL_bead_0 4 rfl ?_
  refine q_iconst C (nI 0) dL_bead_2 (by decide) ?_
  refine q_aload_n C dL_bead_3 rfl 0 rfl ?_
  refine q_iload_n C dL_bead_4 rfl 1 rfl ?_
  refine q_iload_n C dL_bead_5 rfl 2 rfl ?_
  refine q_iload_n C dL_bead_6 rfl 3 rfl ?_
  refine q_xcallVi C (As := [.int x, .int y, .int z]) (rest := [.int (nI 0), .ref (σ.2.1 18)]) (k := 0) (by omega) q_enBP rfl rfl (kX2_bead l σ V G hlf hd x y z) 3 gL_bead_X2_bead rfl rfl rfl (by decide +kernel) ⟨Nat.le_of_ble_eq_true rfl, Nat.le_of_ble_eq_true rfl⟩ dL_bead_7 rfl (Nat.le_of_ble_eq_true rfl) ⟨Nat.le_of_ble_eq_true rfl, Nat.le_of_ble_eq_true rfl⟩ (fun E_7 V_1 G_2 hx_7 => ?_) (fun r_7 V_1 G_2 hq_7 => ?_)
  · skip
    rcases q_xc1 hx_7.1 with ⟨hcd, rfl⟩
    · skip
      refine q_catch C htab [] 0 12 15 13 "java/lang/IndexOutOfBoundsException" [] rfl (by decide +kernel) (by decide) (by decide) (by decide) (by decide +kernel) (by decide +kernel) (fun q9 => ?_)
      refine q_astore C [(5, .ref q9), (0, .ref (σ.2.1 0)), (1, .int x), (2, .int y), (3, .int z), (4, .ref (σ.2.1 18))] dL_bead_15 (by decide) rfl ?_
      refine q_iconst C (nI 1) dL_bead_17 (by decide) ?_
      refine hR _ _ _ _ _ _ _ ?_ rfl (Nat.le_of_ble_eq_true rfl) (Nat.le_of_ble_eq_true rfl) dL_bead_18
      exact Or.inr ⟨_, hx_7, congrArg nI hcd⟩
  refine q_i2l C dL_bead_10 ?_
  refine q_lastN C (k := 18) (n := 1) ⟨by decide, by decide, by decide⟩ (by omega) (by decide) dL_bead_11 ?_
  refine q_goto C 19 dL_bead_12 (by decide) ?_
  refine q_iconst C (nI 0) dL_bead_19 (by decide) ?_
  refine hR _ _ _ _ _ _ _ ?_ rfl (Nat.le_of_ble_eq_true rfl) (Nat.le_of_ble_eq_true rfl) dL_bead_20
  exact Or.inl ⟨_, _, _, hq_7, rfl, rfl, rfl⟩
abbrev rL_pattern : Room := { frames := 8, cells := 6, slots := 36, locals := 243 }
set_option maxHeartbeats 4000000 in
set_option maxRecDepth 100000 in
/-- pattern, the law's call -/
theorem kL_pattern (l : Launch) (σ : q_E) (V : q_V) (G : q_G) (hlf : l.stackTraces = false) {n : Nat} (hn : V 0 6 = nI n) (hn2 : n ≤ 12) (x : Int32) : q_Mi l yL_pattern wsL_pattern rL_pattern σ [.ref (σ.2.1 0), .int x, .ref (σ.2.1 18)] V G (fun k V' G' => (∃ r V1 G1, (fun r V' G' => (q_c2 (q_ok 7 x) (n ≠ 12)) = 0 ∧ (nI n) = r ∧ (q_up (q_up (q_cpy (q_up (q_up V (27 + (1 + n)) 1 (V (27 + 0) 1)) (27 + (1 + n)) 2 (V (27 + 0) 2)) (48 + 0) (48 + (1 + n)) 48) 5 n x) 0 6 (nI (n + 1))) = V' ∧ G = G') r V1 G1 ∧ (0 : Int32) = k ∧ V1 = V' ∧ q_upL G1 18 0 r.toInt64 = G') ∨ (∃ E, (fun E V' G' => q_xc [xI, xS] (q_c2 (q_ok 7 x) (n ≠ 12)) E ∧ V = V' ∧ G = G') E V' G' ∧ nI (q_c2 (q_ok 7 x) (n ≠ 12)) = k)) 6 36 := by
  refine q_Wi_of (cc := cL_pattern) (maxL := 4) (lv := [(0, .ref (σ.2.1 0)), (1, .int x), (2, .ref (σ.2.1 18))]) (by decide +kernel) rfl (Nat.le_of_ble_eq_true rfl) rfl ?_
  intro p e s m args below meth c Q C htab hR
  refine q_aload_n C dL_pattern_0 rfl 2 rfl ?_
  refine q_iconst C (nI 0) dL_pattern_1 (by decide) ?_
  refine q_aload_n C dL_pattern_2 rfl 0 rfl ?_
  refine q_iload_n C dL_pattern_3 rfl 1 rfl ?_
  refine q_xcallVi C (As := [.int x]) (rest := [.int (nI 0), .ref (σ.2.1 18)]) (k := 0) (by omega) q_enBP rfl rfl (kX2_pattern l σ V G hlf hn hn2 x) 1 gL_pattern_X2_pattern rfl rfl rfl (by decide +kernel) ⟨Nat.le_of_ble_eq_true rfl, Nat.le_of_ble_eq_true rfl⟩ dL_pattern_4 rfl (Nat.le_of_ble_eq_true rfl) ⟨Nat.le_of_ble_eq_true rfl, Nat.le_of_ble_eq_true rfl⟩ (fun E_4 V_1 G_2 hx_4 => ?_) (fun r_4 V_1 G_2 hq_4 => ?_)
  · skip
    rcases q_xc2 hx_4.1 with ⟨hcd, rfl⟩ | ⟨hcd, rfl⟩
    · skip
      refine q_catch C htab [] 0 9 12 13 "java/lang/IndexOutOfBoundsException" [(0, 9, 15, 17)] rfl (by decide +kernel) (by decide) (by decide) (by decide) (by decide +kernel) (by decide +kernel) (fun q9 => ?_)
      refine q_astore_n C [(3, .ref q9), (0, .ref (σ.2.1 0)), (1, .int x), (2, .ref (σ.2.1 18))] dL_pattern_12 rfl (by decide) rfl ?_
      refine q_iconst C (nI 1) dL_pattern_13 (by decide) ?_
      refine hR _ _ _ _ _ _ _ ?_ rfl (Nat.le_of_ble_eq_true rfl) (Nat.le_of_ble_eq_true rfl) dL_pattern_14
      exact Or.inr ⟨_, hx_4, congrArg nI hcd⟩
    · skip
      refine q_catch C htab [((0, 9, 12, 13), "java/lang/IndexOutOfBoundsException")] 0 9 15 17 "java/lang/IllegalStateException" [] rfl (by decide +kernel) (by decide) (by decide) (by decide) (by decide +kernel) (by decide +kernel) (fun q9 => ?_)
      refine q_astore_n C [(3, .ref q9), (0, .ref (σ.2.1 0)), (1, .int x), (2, .ref (σ.2.1 18))] dL_pattern_15 rfl (by decide) rfl ?_
      refine q_iconst C (nI 2) dL_pattern_16 (by decide) ?_
      refine hR _ _ _ _ _ _ _ ?_ rfl (Nat.le_of_ble_eq_true rfl) (Nat.le_of_ble_eq_true rfl) dL_pattern_17
      exact Or.inr ⟨_, hx_4, congrArg nI hcd⟩
  refine q_i2l C dL_pattern_7 ?_
  refine q_lastN C (k := 18) (n := 1) ⟨by decide, by decide, by decide⟩ (by omega) (by decide) dL_pattern_8 ?_
  refine q_goto C 18 dL_pattern_9 (by decide) ?_
  refine q_iconst C (nI 0) dL_pattern_18 (by decide) ?_
  refine hR _ _ _ _ _ _ _ ?_ rfl (Nat.le_of_ble_eq_true rfl) (Nat.le_of_ble_eq_true rfl) dL_pattern_19
  exact Or.inl ⟨_, _, _, hq_4, rfl, rfl, rfl⟩
abbrev rL_symmetries : Room := { frames := 8, cells := 6, slots := 36, locals := 133 }
set_option maxHeartbeats 4000000 in
set_option maxRecDepth 100000 in
/-- symmetries, the law's call -/
theorem kL_symmetries (l : Launch) (σ : q_E) (V : q_V) (G : q_G) (hlf : l.stackTraces = false) {n : Nat} (hn : V 0 6 = nI n) (hn2 : n ≤ 12) (hp : q_cpats V n) (x : Int32) : q_Mi l yL_symmetries wsL_symmetries rL_symmetries σ [.ref (σ.2.1 0), .int x, .ref (σ.2.1 18)] V G (fun k V' G' => (∃ r V1 G1, (fun r V' G' => (q_c1 (q_ok n x)) = 0 ∧ (nI (q_b (q_calk V (q_n x) (q_n x) 4) 1 + q_b (q_calk V (q_n x) (q_n x) 6) 2 + q_b (q_calk V (q_n x) (q_n x) 2) 4 + q_b (q_calk V (q_n x) (q_n x) 1) 8)) = r ∧ V = V' ∧ G = G') r V1 G1 ∧ (0 : Int32) = k ∧ V1 = V' ∧ q_upL G1 18 0 r.toInt64 = G') ∨ (∃ E, (fun E V' G' => q_xc [xI] (q_c1 (q_ok n x)) E ∧ V = V' ∧ G = G') E V' G' ∧ nI (q_c1 (q_ok n x)) = k)) 6 36 := by
  refine q_Wi_of (cc := cL_symmetries) (maxL := 4) (lv := [(0, .ref (σ.2.1 0)), (1, .int x), (2, .ref (σ.2.1 18))]) (by decide +kernel) rfl (Nat.le_of_ble_eq_true rfl) rfl ?_
  intro p e s m args below meth c Q C htab hR
  refine q_aload_n C dL_symmetries_0 rfl 2 rfl ?_
  refine q_iconst C (nI 0) dL_symmetries_1 (by decide) ?_
  refine q_aload_n C dL_symmetries_2 rfl 0 rfl ?_
  refine q_iload_n C dL_symmetries_3 rfl 1 rfl ?_
  refine q_xcallVi C (As := [.int x]) (rest := [.int (nI 0), .ref (σ.2.1 18)]) (k := 0) (by omega) q_enBP rfl rfl (kX2_symmetries l σ V G hlf hn hn2 hp x) 1 gL_symmetries_X2_symmetries rfl rfl rfl (by decide +kernel) ⟨Nat.le_of_ble_eq_true rfl, Nat.le_of_ble_eq_true rfl⟩ dL_symmetries_4 rfl (Nat.le_of_ble_eq_true rfl) ⟨Nat.le_of_ble_eq_true rfl, Nat.le_of_ble_eq_true rfl⟩ (fun E_4 V_1 G_2 hx_4 => ?_) (fun r_4 V_1 G_2 hq_4 => ?_)
  · skip
    rcases q_xc1 hx_4.1 with ⟨hcd, rfl⟩
    · skip
      refine q_catch C htab [] 0 9 12 13 "java/lang/IndexOutOfBoundsException" [] rfl (by decide +kernel) (by decide) (by decide) (by decide) (by decide +kernel) (by decide +kernel) (fun q9 => ?_)
      refine q_astore_n C [(3, .ref q9), (0, .ref (σ.2.1 0)), (1, .int x), (2, .ref (σ.2.1 18))] dL_symmetries_12 rfl (by decide) rfl ?_
      refine q_iconst C (nI 1) dL_symmetries_13 (by decide) ?_
      refine hR _ _ _ _ _ _ _ ?_ rfl (Nat.le_of_ble_eq_true rfl) (Nat.le_of_ble_eq_true rfl) dL_symmetries_14
      exact Or.inr ⟨_, hx_4, congrArg nI hcd⟩
  refine q_i2l C dL_symmetries_7 ?_
  refine q_lastN C (k := 18) (n := 1) ⟨by decide, by decide, by decide⟩ (by omega) (by decide) dL_symmetries_8 ?_
  refine q_goto C 15 dL_symmetries_9 (by decide) ?_
  refine q_iconst C (nI 0) dL_symmetries_15 (by decide) ?_
  refine hR _ _ _ _ _ _ _ ?_ rfl (Nat.le_of_ble_eq_true rfl) (Nat.le_of_ble_eq_true rfl) dL_symmetries_16
  exact Or.inl ⟨_, _, _, hq_4, rfl, rfl, rfl⟩
abbrev rL_origin : Room := { frames := 8, cells := 6, slots := 36, locals := 132 }
set_option maxHeartbeats 4000000 in
set_option maxRecDepth 100000 in
/-- origin, the law's call -/
theorem kL_origin (l : Launch) (σ : q_E) (V : q_V) (G : q_G) (hlf : l.stackTraces = false) {n : Nat} (hn : V 0 6 = nI n) (hn2 : n ≤ 12) (hp : q_cpats V n) (x : Int32) : q_Mi l yL_origin wsL_origin rL_origin σ [.ref (σ.2.1 0), .int x, .ref (σ.2.1 18)] V G (fun k V' G' => (∃ r V1 G1, (fun r V' G' => (q_c1 (q_ok n x)) = 0 ∧ (∃ o, q_corg V (q_n x) o ∧ nI o = r) ∧ V = V' ∧ G = G') r V1 G1 ∧ (0 : Int32) = k ∧ V1 = V' ∧ q_upL G1 18 0 r.toInt64 = G') ∨ (∃ E, (fun E V' G' => q_xc [xI] (q_c1 (q_ok n x)) E ∧ V = V' ∧ G = G') E V' G' ∧ nI (q_c1 (q_ok n x)) = k)) 6 36 := by
  refine q_Wi_of (cc := cL_origin) (maxL := 4) (lv := [(0, .ref (σ.2.1 0)), (1, .int x), (2, .ref (σ.2.1 18))]) (by decide +kernel) rfl (Nat.le_of_ble_eq_true rfl) rfl ?_
  intro p e s m args below meth c Q C htab hR
  refine q_aload_n C dL_origin_0 rfl 2 rfl ?_
  refine q_iconst C (nI 0) dL_origin_1 (by decide) ?_
  refine q_aload_n C dL_origin_2 rfl 0 rfl ?_
  refine q_iload_n C dL_origin_3 rfl 1 rfl ?_
  refine q_xcallVi C (As := [.int x]) (rest := [.int (nI 0), .ref (σ.2.1 18)]) (k := 0) (by omega) q_enBP rfl rfl (kX2_origin l σ V G hlf hn hn2 hp x) 1 gL_origin_X2_origin rfl rfl rfl (by decide +kernel) ⟨Nat.le_of_ble_eq_true rfl, Nat.le_of_ble_eq_true rfl⟩ dL_origin_4 rfl (Nat.le_of_ble_eq_true rfl) ⟨Nat.le_of_ble_eq_true rfl, Nat.le_of_ble_eq_true rfl⟩ (fun E_4 V_1 G_2 hx_4 => ?_) (fun r_4 V_1 G_2 hq_4 => ?_)
  · skip
    rcases q_xc1 hx_4.1 with ⟨hcd, rfl⟩
    · skip
      refine q_catch C htab [] 0 9 12 13 "java/lang/IndexOutOfBoundsException" [] rfl (by decide +kernel) (by decide) (by decide) (by decide) (by decide +kernel) (by decide +kernel) (fun q9 => ?_)
      refine q_astore_n C [(3, .ref q9), (0, .ref (σ.2.1 0)), (1, .int x), (2, .ref (σ.2.1 18))] dL_origin_12 rfl (by decide) rfl ?_
      refine q_iconst C (nI 1) dL_origin_13 (by decide) ?_
      refine hR _ _ _ _ _ _ _ ?_ rfl (Nat.le_of_ble_eq_true rfl) (Nat.le_of_ble_eq_true rfl) dL_origin_14
      exact Or.inr ⟨_, hx_4, congrArg nI hcd⟩
  refine q_i2l C dL_origin_7 ?_
  refine q_lastN C (k := 18) (n := 1) ⟨by decide, by decide, by decide⟩ (by omega) (by decide) dL_origin_8 ?_
  refine q_goto C 15 dL_origin_9 (by decide) ?_
  refine q_iconst C (nI 0) dL_origin_15 (by decide) ?_
  refine hR _ _ _ _ _ _ _ ?_ rfl (Nat.le_of_ble_eq_true rfl) (Nat.le_of_ble_eq_true rfl) dL_origin_16
  exact Or.inl ⟨_, _, _, hq_4, rfl, rfl, rfl⟩
abbrev rL_needs : Room := { frames := 8, cells := 6, slots := 36, locals := 133 }
set_option maxHeartbeats 4000000 in
set_option maxRecDepth 100000 in
/-- needs, the law's call -/
theorem kL_needs (l : Launch) (σ : q_E) (V : q_V) (G : q_G) (hlf : l.stackTraces = false) {n : Nat} (hn : V 0 6 = nI n) (hn2 : n ≤ 12) (hp : q_cpats V n) (x y : Int32) : q_Mi l yL_needs wsL_needs rL_needs σ [.ref (σ.2.1 0), .int x, .int y, .ref (σ.2.1 18)] V G (fun k V' G' => (∃ r V1 G1, (fun r V' G' => (q_c1 (q_ok n x ∧ q_ok 8 y)) = 0 ∧ (nI (q_cneeds V (q_n x) y)) = r ∧ V = V' ∧ G = G') r V1 G1 ∧ (0 : Int32) = k ∧ V1 = V' ∧ q_upL G1 18 0 r.toInt64 = G') ∨ (∃ E, (fun E V' G' => q_xc [xI] (q_c1 (q_ok n x ∧ q_ok 8 y)) E ∧ V = V' ∧ G = G') E V' G' ∧ nI (q_c1 (q_ok n x ∧ q_ok 8 y)) = k)) 6 36 := by
  refine q_Wi_of (cc := cL_needs) (maxL := 5) (lv := [(0, .ref (σ.2.1 0)), (1, .int x), (2, .int y), (3, .ref (σ.2.1 18))]) (by decide +kernel) rfl (Nat.le_of_ble_eq_true rfl) rfl ?_
  intro p e s m args below meth c Q C htab hR
  refine q_aload_n C dL_needs_0 rfl 3 rfl ?_
  refine q_iconst C (nI 0) dL_needs_1 (by decide) ?_
  refine q_aload_n C dL_needs_2 rfl 0 rfl ?_
  refine q_iload_n C dL_needs_3 rfl 1 rfl ?_
  refine q_iload_n C dL_needs_4 rfl 2 rfl ?_
  refine q_xcallVi C (As := [.int x, .int y]) (rest := [.int (nI 0), .ref (σ.2.1 18)]) (k := 0) (by omega) q_enBP rfl rfl (kX2_needs l σ V G hlf hn hn2 hp x y) 2 gL_needs_X2_needs rfl rfl rfl (by decide +kernel) ⟨Nat.le_of_ble_eq_true rfl, Nat.le_of_ble_eq_true rfl⟩ dL_needs_5 rfl (Nat.le_of_ble_eq_true rfl) ⟨Nat.le_of_ble_eq_true rfl, Nat.le_of_ble_eq_true rfl⟩ (fun E_5 V_1 G_2 hx_5 => ?_) (fun r_5 V_1 G_2 hq_5 => ?_)
  · skip
    rcases q_xc1 hx_5.1 with ⟨hcd, rfl⟩
    · skip
      refine q_catch C htab [] 0 10 13 13 "java/lang/IndexOutOfBoundsException" [] rfl (by decide +kernel) (by decide) (by decide) (by decide) (by decide +kernel) (by decide +kernel) (fun q9 => ?_)
      refine q_astore C [(4, .ref q9), (0, .ref (σ.2.1 0)), (1, .int x), (2, .int y), (3, .ref (σ.2.1 18))] dL_needs_13 (by decide) rfl ?_
      refine q_iconst C (nI 1) dL_needs_15 (by decide) ?_
      refine hR _ _ _ _ _ _ _ ?_ rfl (Nat.le_of_ble_eq_true rfl) (Nat.le_of_ble_eq_true rfl) dL_needs_16
      exact Or.inr ⟨_, hx_5, congrArg nI hcd⟩
  refine q_i2l C dL_needs_8 ?_
  refine q_lastN C (k := 18) (n := 1) ⟨by decide, by decide, by decide⟩ (by omega) (by decide) dL_needs_9 ?_
  refine q_goto C 17 dL_needs_10 (by decide) ?_
  refine q_iconst C (nI 0) dL_needs_17 (by decide) ?_
  refine hR _ _ _ _ _ _ _ ?_ rfl (Nat.le_of_ble_eq_true rfl) (Nat.le_of_ble_eq_true rfl) dL_needs_18
  exact Or.inl ⟨_, _, _, hq_5, rfl, rfl, rfl⟩
abbrev rL_weave : Room := { frames := 8, cells := 6, slots := 36, locals := 136 }
set_option maxHeartbeats 4000000 in
set_option maxRecDepth 100000 in
/-- weave, the law's call -/
theorem kL_weave (l : Launch) (σ : q_E) (V : q_V) (G : q_G) (hlf : l.stackTraces = false) {n : Nat} (hn : V 0 6 = nI n) (hn2 : n ≤ 12) (hp : q_cpats V n) (hau : ∀ pa, pa < n → ∃ a, a < 7 ∧ V 5 pa = nI a) (x y : Int32) : q_Mi l yL_weave wsL_weave rL_weave σ [.ref (σ.2.1 0), .int x, .int y, .ref (σ.2.1 18)] V G (fun k V' G' => (∃ r V1 G1, (fun r V' G' => (q_c2 (q_ok 7 x ∧ q_ok n y) ((∃ b, b < 20 ∧ V 6 b = -1) ∧ ∀ k, k < 8 → nI (q_cneeds V (q_n y) (nI k)) ≤ V (20 + q_n x) k)) = 0 ∧ (∃ kf o, kf < 20 ∧ (∀ b, b < kf → ¬ V 6 b = -1) ∧ V 6 kf = -1 ∧ nI kf = r ∧ q_corg V (q_n y) o ∧ (q_up (q_up (q_up (q_subr V (q_n x) (fun k => nI (q_cneeds V (q_n y) (nI k))) 8) 6 kf y) 7 kf x) 8 (q_n (V 5 o)) (V 8 (q_n (V 5 o)) + nI 1)) = V') ∧ G = G') r V1 G1 ∧ (0 : Int32) = k ∧ V1 = V' ∧ q_upL G1 18 0 r.toInt64 = G') ∨ (∃ E, (fun E V' G' => q_xc [xI, xS] (q_c2 (q_ok 7 x ∧ q_ok n y) ((∃ b, b < 20 ∧ V 6 b = -1) ∧ ∀ k, k < 8 → nI (q_cneeds V (q_n y) (nI k)) ≤ V (20 + q_n x) k)) E ∧ V = V' ∧ G = G') E V' G' ∧ nI (q_c2 (q_ok 7 x ∧ q_ok n y) ((∃ b, b < 20 ∧ V 6 b = -1) ∧ ∀ k, k < 8 → nI (q_cneeds V (q_n y) (nI k)) ≤ V (20 + q_n x) k)) = k)) 6 36 := by
  refine q_Wi_of (cc := cL_weave) (maxL := 5) (lv := [(0, .ref (σ.2.1 0)), (1, .int x), (2, .int y), (3, .ref (σ.2.1 18))]) (by decide +kernel) rfl (Nat.le_of_ble_eq_true rfl) rfl ?_
  intro p e s m args below meth c Q C htab hR
  refine q_aload_n C dL_weave_0 rfl 3 rfl ?_
  refine q_iconst C (nI 0) dL_weave_1 (by decide) ?_
  refine q_aload_n C dL_weave_2 rfl 0 rfl ?_
  refine q_iload_n C dL_weave_3 rfl 1 rfl ?_
  refine q_iload_n C dL_weave_4 rfl 2 rfl ?_
  refine q_xcallVi C (As := [.int x, .int y]) (rest := [.int (nI 0), .ref (σ.2.1 18)]) (k := 0) (by omega) q_enBP rfl rfl (kX2_weave l σ V G hlf hn hn2 hp hau x y) 2 gL_weave_X2_weave rfl rfl rfl (by decide +kernel) ⟨Nat.le_of_ble_eq_true rfl, Nat.le_of_ble_eq_true rfl⟩ dL_weave_5 rfl (Nat.le_of_ble_eq_true rfl) ⟨Nat.le_of_ble_eq_true rfl, Nat.le_of_ble_eq_true rfl⟩ (fun E_5 V_1 G_2 hx_5 => ?_) (fun r_5 V_1 G_2 hq_5 => ?_)
  · skip
    rcases q_xc2 hx_5.1 with ⟨hcd, rfl⟩ | ⟨hcd, rfl⟩
    · skip
      refine q_catch C htab [] 0 10 13 13 "java/lang/IndexOutOfBoundsException" [(0, 10, 17, 17)] rfl (by decide +kernel) (by decide) (by decide) (by decide) (by decide +kernel) (by decide +kernel) (fun q9 => ?_)
      refine q_astore C [(4, .ref q9), (0, .ref (σ.2.1 0)), (1, .int x), (2, .int y), (3, .ref (σ.2.1 18))] dL_weave_13 (by decide) rfl ?_
      refine q_iconst C (nI 1) dL_weave_15 (by decide) ?_
      refine hR _ _ _ _ _ _ _ ?_ rfl (Nat.le_of_ble_eq_true rfl) (Nat.le_of_ble_eq_true rfl) dL_weave_16
      exact Or.inr ⟨_, hx_5, congrArg nI hcd⟩
    · skip
      refine q_catch C htab [((0, 10, 13, 13), "java/lang/IndexOutOfBoundsException")] 0 10 17 17 "java/lang/IllegalStateException" [] rfl (by decide +kernel) (by decide) (by decide) (by decide) (by decide +kernel) (by decide +kernel) (fun q9 => ?_)
      refine q_astore C [(4, .ref q9), (0, .ref (σ.2.1 0)), (1, .int x), (2, .int y), (3, .ref (σ.2.1 18))] dL_weave_17 (by decide) rfl ?_
      refine q_iconst C (nI 2) dL_weave_19 (by decide) ?_
      refine hR _ _ _ _ _ _ _ ?_ rfl (Nat.le_of_ble_eq_true rfl) (Nat.le_of_ble_eq_true rfl) dL_weave_20
      exact Or.inr ⟨_, hx_5, congrArg nI hcd⟩
  refine q_i2l C dL_weave_8 ?_
  refine q_lastN C (k := 18) (n := 1) ⟨by decide, by decide, by decide⟩ (by omega) (by decide) dL_weave_9 ?_
  refine q_goto C 21 dL_weave_10 (by decide) ?_
  refine q_iconst C (nI 0) dL_weave_21 (by decide) ?_
  refine hR _ _ _ _ _ _ _ ?_ rfl (Nat.le_of_ble_eq_true rfl) (Nat.le_of_ble_eq_true rfl) dL_weave_22
  exact Or.inl ⟨_, _, _, hq_5, rfl, rfl, rfl⟩
abbrev rL_apart : Room := { frames := 8, cells := 6, slots := 36, locals := 135 }
set_option maxHeartbeats 4000000 in
set_option maxRecDepth 100000 in
/-- apart, the law's call -/
theorem kL_apart (l : Launch) (σ : q_E) (V : q_V) (G : q_G) (hlf : l.stackTraces = false) {n : Nat} (hn2 : n ≤ 12) (hp : q_cpats V n) (hbl : q_cbelts V n) (how : ∀ b, b < 20 → ∃ a, a < 7 ∧ V 7 b = nI a) (x : Int32) : q_Mi l yL_apart wsL_apart rL_apart σ [.ref (σ.2.1 0), .int x, .ref (σ.2.1 18)] V G (fun k V' G' => (∃ r V1 G1, (fun r V' G' => (q_c2 (q_cisb V x) (∀ k, k < 8 → V (20 + q_n (V 7 (q_n x))) k + nI (q_cneeds V (q_n (V 6 (q_n x))) (nI k)) ≤ nI 100000)) = 0 ∧ (nI (q_gw V (1 + q_n (V 6 (q_n x))) * q_gh V (1 + q_n (V 6 (q_n x))))) = r ∧ (q_up (q_addr V (q_n (V 7 (q_n x))) (fun k => nI (q_cneeds V (q_n (V 6 (q_n x))) (nI k))) 8) 6 (q_n x) (-1)) = V' ∧ G = G') r V1 G1 ∧ (0 : Int32) = k ∧ V1 = V' ∧ q_upL G1 18 0 r.toInt64 = G') ∨ (∃ E, (fun E V' G' => q_xc [xI, xS] (q_c2 (q_cisb V x) (∀ k, k < 8 → V (20 + q_n (V 7 (q_n x))) k + nI (q_cneeds V (q_n (V 6 (q_n x))) (nI k)) ≤ nI 100000)) E ∧ V = V' ∧ G = G') E V' G' ∧ nI (q_c2 (q_cisb V x) (∀ k, k < 8 → V (20 + q_n (V 7 (q_n x))) k + nI (q_cneeds V (q_n (V 6 (q_n x))) (nI k)) ≤ nI 100000)) = k)) 6 36 := by
  refine q_Wi_of (cc := cL_apart) (maxL := 4) (lv := [(0, .ref (σ.2.1 0)), (1, .int x), (2, .ref (σ.2.1 18))]) (by decide +kernel) rfl (Nat.le_of_ble_eq_true rfl) rfl ?_
  intro p e s m args below meth c Q C htab hR
  refine q_aload_n C dL_apart_0 rfl 2 rfl ?_
  refine q_iconst C (nI 0) dL_apart_1 (by decide) ?_
  refine q_aload_n C dL_apart_2 rfl 0 rfl ?_
  refine q_iload_n C dL_apart_3 rfl 1 rfl ?_
  refine q_xcallVi C (As := [.int x]) (rest := [.int (nI 0), .ref (σ.2.1 18)]) (k := 0) (by omega) q_enBP rfl rfl (kX2_apart l σ V G hlf hn2 hp hbl how x) 1 gL_apart_X2_apart rfl rfl rfl (by decide +kernel) ⟨Nat.le_of_ble_eq_true rfl, Nat.le_of_ble_eq_true rfl⟩ dL_apart_4 rfl (Nat.le_of_ble_eq_true rfl) ⟨Nat.le_of_ble_eq_true rfl, Nat.le_of_ble_eq_true rfl⟩ (fun E_4 V_1 G_2 hx_4 => ?_) (fun r_4 V_1 G_2 hq_4 => ?_)
  · skip
    rcases q_xc2 hx_4.1 with ⟨hcd, rfl⟩ | ⟨hcd, rfl⟩
    · skip
      refine q_catch C htab [] 0 9 12 13 "java/lang/IndexOutOfBoundsException" [(0, 9, 15, 17)] rfl (by decide +kernel) (by decide) (by decide) (by decide) (by decide +kernel) (by decide +kernel) (fun q9 => ?_)
      refine q_astore_n C [(3, .ref q9), (0, .ref (σ.2.1 0)), (1, .int x), (2, .ref (σ.2.1 18))] dL_apart_12 rfl (by decide) rfl ?_
      refine q_iconst C (nI 1) dL_apart_13 (by decide) ?_
      refine hR _ _ _ _ _ _ _ ?_ rfl (Nat.le_of_ble_eq_true rfl) (Nat.le_of_ble_eq_true rfl) dL_apart_14
      exact Or.inr ⟨_, hx_4, congrArg nI hcd⟩
    · skip
      refine q_catch C htab [((0, 9, 12, 13), "java/lang/IndexOutOfBoundsException")] 0 9 15 17 "java/lang/IllegalStateException" [] rfl (by decide +kernel) (by decide) (by decide) (by decide) (by decide +kernel) (by decide +kernel) (fun q9 => ?_)
      refine q_astore_n C [(3, .ref q9), (0, .ref (σ.2.1 0)), (1, .int x), (2, .ref (σ.2.1 18))] dL_apart_15 rfl (by decide) rfl ?_
      refine q_iconst C (nI 2) dL_apart_16 (by decide) ?_
      refine hR _ _ _ _ _ _ _ ?_ rfl (Nat.le_of_ble_eq_true rfl) (Nat.le_of_ble_eq_true rfl) dL_apart_17
      exact Or.inr ⟨_, hx_4, congrArg nI hcd⟩
  refine q_i2l C dL_apart_7 ?_
  refine q_lastN C (k := 18) (n := 1) ⟨by decide, by decide, by decide⟩ (by omega) (by decide) dL_apart_8 ?_
  refine q_goto C 18 dL_apart_9 (by decide) ?_
  refine q_iconst C (nI 0) dL_apart_18 (by decide) ?_
  refine hR _ _ _ _ _ _ _ ?_ rfl (Nat.le_of_ble_eq_true rfl) (Nat.le_of_ble_eq_true rfl) dL_apart_19
  exact Or.inl ⟨_, _, _, hq_4, rfl, rfl, rfl⟩
abbrev rL_give : Room := { frames := 8, cells := 6, slots := 36, locals := 134 }
set_option maxHeartbeats 4000000 in
set_option maxRecDepth 100000 in
/-- give, the law's call -/
theorem kL_give (l : Launch) (σ : q_E) (V : q_V) (G : q_G) (hlf : l.stackTraces = false)  (x y : Int32) : q_Mi l yL_give wsL_give rL_give σ [.ref (σ.2.1 0), .int x, .int y, .ref (σ.2.1 18)] V G (fun k V' G' => (∃ r V1 G1, (fun r V' G' => (q_c1 ((q_cisb V x) ∧ q_ok 7 y)) = 0 ∧ (V 7 (q_n x)) = r ∧ (q_up V 7 (q_n x) y) = V' ∧ G = G') r V1 G1 ∧ (0 : Int32) = k ∧ V1 = V' ∧ q_upL G1 18 0 r.toInt64 = G') ∨ (∃ E, (fun E V' G' => q_xc [xI] (q_c1 ((q_cisb V x) ∧ q_ok 7 y)) E ∧ V = V' ∧ G = G') E V' G' ∧ nI (q_c1 ((q_cisb V x) ∧ q_ok 7 y)) = k)) 6 36 := by
  refine q_Wi_of (cc := cL_give) (maxL := 5) (lv := [(0, .ref (σ.2.1 0)), (1, .int x), (2, .int y), (3, .ref (σ.2.1 18))]) (by decide +kernel) rfl (Nat.le_of_ble_eq_true rfl) rfl ?_
  intro p e s m args below meth c Q C htab hR
  refine q_aload_n C dL_give_0 rfl 3 rfl ?_
  refine q_iconst C (nI 0) dL_give_1 (by decide) ?_
  refine q_aload_n C dL_give_2 rfl 0 rfl ?_
  refine q_iload_n C dL_give_3 rfl 1 rfl ?_
  refine q_iload_n C dL_give_4 rfl 2 rfl ?_
  refine q_xcallVi C (As := [.int x, .int y]) (rest := [.int (nI 0), .ref (σ.2.1 18)]) (k := 0) (by omega) q_enBP rfl rfl (kX2_give l σ V G hlf x y) 2 gL_give_X2_give rfl rfl rfl (by decide +kernel) ⟨Nat.le_of_ble_eq_true rfl, Nat.le_of_ble_eq_true rfl⟩ dL_give_5 rfl (Nat.le_of_ble_eq_true rfl) ⟨Nat.le_of_ble_eq_true rfl, Nat.le_of_ble_eq_true rfl⟩ (fun E_5 V_1 G_2 hx_5 => ?_) (fun r_5 V_1 G_2 hq_5 => ?_)
  · skip
    rcases q_xc1 hx_5.1 with ⟨hcd, rfl⟩
    · skip
      refine q_catch C htab [] 0 10 13 13 "java/lang/IndexOutOfBoundsException" [] rfl (by decide +kernel) (by decide) (by decide) (by decide) (by decide +kernel) (by decide +kernel) (fun q9 => ?_)
      refine q_astore C [(4, .ref q9), (0, .ref (σ.2.1 0)), (1, .int x), (2, .int y), (3, .ref (σ.2.1 18))] dL_give_13 (by decide) rfl ?_
      refine q_iconst C (nI 1) dL_give_15 (by decide) ?_
      refine hR _ _ _ _ _ _ _ ?_ rfl (Nat.le_of_ble_eq_true rfl) (Nat.le_of_ble_eq_true rfl) dL_give_16
      exact Or.inr ⟨_, hx_5, congrArg nI hcd⟩
  refine q_i2l C dL_give_8 ?_
  refine q_lastN C (k := 18) (n := 1) ⟨by decide, by decide, by decide⟩ (by omega) (by decide) dL_give_9 ?_
  refine q_goto C 17 dL_give_10 (by decide) ?_
  refine q_iconst C (nI 0) dL_give_17 (by decide) ?_
  refine hR _ _ _ _ _ _ _ ?_ rfl (Nat.le_of_ble_eq_true rfl) (Nat.le_of_ble_eq_true rfl) dL_give_18
  exact Or.inl ⟨_, _, _, hq_5, rfl, rfl, rfl⟩
abbrev rL_owner : Room := { frames := 8, cells := 6, slots := 36, locals := 132 }
set_option maxHeartbeats 4000000 in
set_option maxRecDepth 100000 in
/-- owner, the law's call -/
theorem kL_owner (l : Launch) (σ : q_E) (V : q_V) (G : q_G) (hlf : l.stackTraces = false)  (x : Int32) : q_Mi l yL_owner wsL_owner rL_owner σ [.ref (σ.2.1 0), .int x, .ref (σ.2.1 18)] V G (fun k V' G' => (∃ r V1 G1, (fun r V' G' => (q_c1 (q_cisb V x)) = 0 ∧ (V 7 (q_n x)) = r ∧ V = V' ∧ G = G') r V1 G1 ∧ (0 : Int32) = k ∧ V1 = V' ∧ q_upL G1 18 0 r.toInt64 = G') ∨ (∃ E, (fun E V' G' => q_xc [xI] (q_c1 (q_cisb V x)) E ∧ V = V' ∧ G = G') E V' G' ∧ nI (q_c1 (q_cisb V x)) = k)) 6 36 := by
  refine q_Wi_of (cc := cL_owner) (maxL := 4) (lv := [(0, .ref (σ.2.1 0)), (1, .int x), (2, .ref (σ.2.1 18))]) (by decide +kernel) rfl (Nat.le_of_ble_eq_true rfl) rfl ?_
  intro p e s m args below meth c Q C htab hR
  refine q_aload_n C dL_owner_0 rfl 2 rfl ?_
  refine q_iconst C (nI 0) dL_owner_1 (by decide) ?_
  refine q_aload_n C dL_owner_2 rfl 0 rfl ?_
  refine q_iload_n C dL_owner_3 rfl 1 rfl ?_
  refine q_xcallVi C (As := [.int x]) (rest := [.int (nI 0), .ref (σ.2.1 18)]) (k := 0) (by omega) q_enBP rfl rfl (kX2_owner l σ V G hlf x) 1 gL_owner_X2_owner rfl rfl rfl (by decide +kernel) ⟨Nat.le_of_ble_eq_true rfl, Nat.le_of_ble_eq_true rfl⟩ dL_owner_4 rfl (Nat.le_of_ble_eq_true rfl) ⟨Nat.le_of_ble_eq_true rfl, Nat.le_of_ble_eq_true rfl⟩ (fun E_4 V_1 G_2 hx_4 => ?_) (fun r_4 V_1 G_2 hq_4 => ?_)
  · skip
    rcases q_xc1 hx_4.1 with ⟨hcd, rfl⟩
    · skip
      refine q_catch C htab [] 0 9 12 13 "java/lang/IndexOutOfBoundsException" [] rfl (by decide +kernel) (by decide) (by decide) (by decide) (by decide +kernel) (by decide +kernel) (fun q9 => ?_)
      refine q_astore_n C [(3, .ref q9), (0, .ref (σ.2.1 0)), (1, .int x), (2, .ref (σ.2.1 18))] dL_owner_12 rfl (by decide) rfl ?_
      refine q_iconst C (nI 1) dL_owner_13 (by decide) ?_
      refine hR _ _ _ _ _ _ _ ?_ rfl (Nat.le_of_ble_eq_true rfl) (Nat.le_of_ble_eq_true rfl) dL_owner_14
      exact Or.inr ⟨_, hx_4, congrArg nI hcd⟩
  refine q_i2l C dL_owner_7 ?_
  refine q_lastN C (k := 18) (n := 1) ⟨by decide, by decide, by decide⟩ (by omega) (by decide) dL_owner_8 ?_
  refine q_goto C 15 dL_owner_9 (by decide) ?_
  refine q_iconst C (nI 0) dL_owner_15 (by decide) ?_
  refine hR _ _ _ _ _ _ _ ?_ rfl (Nat.le_of_ble_eq_true rfl) (Nat.le_of_ble_eq_true rfl) dL_owner_16
  exact Or.inl ⟨_, _, _, hq_4, rfl, rfl, rfl⟩
abbrev rL_credits : Room := { frames := 8, cells := 6, slots := 36, locals := 131 }
set_option maxHeartbeats 4000000 in
set_option maxRecDepth 100000 in
/-- credits, the law's call -/
theorem kL_credits (l : Launch) (σ : q_E) (V : q_V) (G : q_G) (hlf : l.stackTraces = false)  (x : Int32) : q_Mi l yL_credits wsL_credits rL_credits σ [.ref (σ.2.1 0), .int x, .ref (σ.2.1 18)] V G (fun k V' G' => (∃ r V1 G1, (fun r V' G' => (q_c1 (q_ok 7 x)) = 0 ∧ (V 8 (q_n x)) = r ∧ V = V' ∧ G = G') r V1 G1 ∧ (0 : Int32) = k ∧ V1 = V' ∧ q_upL G1 18 0 r.toInt64 = G') ∨ (∃ E, (fun E V' G' => q_xc [xI] (q_c1 (q_ok 7 x)) E ∧ V = V' ∧ G = G') E V' G' ∧ nI (q_c1 (q_ok 7 x)) = k)) 6 36 := by
  refine q_Wi_of (cc := cL_credits) (maxL := 4) (lv := [(0, .ref (σ.2.1 0)), (1, .int x), (2, .ref (σ.2.1 18))]) (by decide +kernel) rfl (Nat.le_of_ble_eq_true rfl) rfl ?_
  intro p e s m args below meth c Q C htab hR
  refine q_aload_n C dL_credits_0 rfl 2 rfl ?_
  refine q_iconst C (nI 0) dL_credits_1 (by decide) ?_
  refine q_aload_n C dL_credits_2 rfl 0 rfl ?_
  refine q_iload_n C dL_credits_3 rfl 1 rfl ?_
  refine q_xcallVi C (As := [.int x]) (rest := [.int (nI 0), .ref (σ.2.1 18)]) (k := 0) (by omega) q_enBP rfl rfl (kX2_credits l σ V G hlf x) 1 gL_credits_X2_credits rfl rfl rfl (by decide +kernel) ⟨Nat.le_of_ble_eq_true rfl, Nat.le_of_ble_eq_true rfl⟩ dL_credits_4 rfl (Nat.le_of_ble_eq_true rfl) ⟨Nat.le_of_ble_eq_true rfl, Nat.le_of_ble_eq_true rfl⟩ (fun E_4 V_1 G_2 hx_4 => ?_) (fun r_4 V_1 G_2 hq_4 => ?_)
  · skip
    rcases q_xc1 hx_4.1 with ⟨hcd, rfl⟩
    · skip
      refine q_catch C htab [] 0 9 12 13 "java/lang/IndexOutOfBoundsException" [] rfl (by decide +kernel) (by decide) (by decide) (by decide) (by decide +kernel) (by decide +kernel) (fun q9 => ?_)
      refine q_astore_n C [(3, .ref q9), (0, .ref (σ.2.1 0)), (1, .int x), (2, .ref (σ.2.1 18))] dL_credits_12 rfl (by decide) rfl ?_
      refine q_iconst C (nI 1) dL_credits_13 (by decide) ?_
      refine hR _ _ _ _ _ _ _ ?_ rfl (Nat.le_of_ble_eq_true rfl) (Nat.le_of_ble_eq_true rfl) dL_credits_14
      exact Or.inr ⟨_, hx_4, congrArg nI hcd⟩
  refine q_i2l C dL_credits_7 ?_
  refine q_lastN C (k := 18) (n := 1) ⟨by decide, by decide, by decide⟩ (by omega) (by decide) dL_credits_8 ?_
  refine q_goto C 15 dL_credits_9 (by decide) ?_
  refine q_iconst C (nI 0) dL_credits_15 (by decide) ?_
  refine hR _ _ _ _ _ _ _ ?_ rfl (Nat.le_of_ble_eq_true rfl) (Nat.le_of_ble_eq_true rfl) dL_credits_16
  exact Or.inl ⟨_, _, _, hq_4, rfl, rfl, rfl⟩
abbrev rL_wish : Room := { frames := 8, cells := 6, slots := 36, locals := 134 }
set_option maxHeartbeats 4000000 in
set_option maxRecDepth 100000 in
/-- wish, the law's call -/
theorem kL_wish (l : Launch) (σ : q_E) (V : q_V) (G : q_G) (hlf : l.stackTraces = false)  (x y z : Int32) : q_Mi l yL_wish wsL_wish rL_wish σ [.ref (σ.2.1 0), .int x, .int y, .int z, .ref (σ.2.1 18)] V G (fun k V' G' => (∃ r V1 G1, (fun r V' G' => (q_c2 (q_ok 7 x ∧ q_ok 8 y ∧ q_ok 8 z) (¬ y = z)) = 0 ∧ q_is (¬ V 13 (q_n x) = -1) r ∧ q_up (q_up V 13 (q_n x) y) 14 (q_n x) z = V' ∧ G = G') r V1 G1 ∧ (0 : Int32) = k ∧ V1 = V' ∧ q_upL G1 18 0 (if r = 0 then (0 : Int64) else 1) = G') ∨ (∃ E, (fun E V' G' => q_xc [xI, xA] (q_c2 (q_ok 7 x ∧ q_ok 8 y ∧ q_ok 8 z) (¬ y = z)) E ∧ V = V' ∧ G = G') E V' G' ∧ nI (q_c2 (q_ok 7 x ∧ q_ok 8 y ∧ q_ok 8 z) (¬ y = z)) = k)) 6 36 := by
  refine q_Wi_of (cc := cL_wish) (maxL := 6) (lv := [(0, .ref (σ.2.1 0)), (1, .int x), (2, .int y), (3, .int z), (4, .ref (σ.2.1 18))]) (by decide +kernel) rfl (Nat.le_of_ble_eq_true rfl) rfl ?_
  intro p e s m args below meth c Q C htab hR
  refine q_aload C dL_wish_0 4 rfl ?_
  refine q_iconst C (nI 0) dL_wish_2 (by decide) ?_
  refine q_aload_n C dL_wish_3 rfl 0 rfl ?_
  refine q_iload_n C dL_wish_4 rfl 1 rfl ?_
  refine q_iload_n C dL_wish_5 rfl 2 rfl ?_
  refine q_iload_n C dL_wish_6 rfl 3 rfl ?_
  refine q_xcallVi C (As := [.int x, .int y, .int z]) (rest := [.int (nI 0), .ref (σ.2.1 18)]) (k := 0) (by omega) q_enBP rfl rfl (kX2_wish l σ V G hlf x y z) 3 gL_wish_X2_wish rfl rfl rfl (by decide +kernel) ⟨Nat.le_of_ble_eq_true rfl, Nat.le_of_ble_eq_true rfl⟩ dL_wish_7 rfl (Nat.le_of_ble_eq_true rfl) ⟨Nat.le_of_ble_eq_true rfl, Nat.le_of_ble_eq_true rfl⟩ (fun E_7 V_1 G_2 hx_7 => ?_) (fun r_7 V_1 G_2 hq_7 => ?_)
  · skip
    rcases q_xc2 hx_7.1 with ⟨hcd, rfl⟩ | ⟨hcd, rfl⟩
    · skip
      refine q_catch C htab [] 0 19 22 13 "java/lang/IndexOutOfBoundsException" [(0, 19, 26, 15)] rfl (by decide +kernel) (by decide) (by decide) (by decide) (by decide +kernel) (by decide +kernel) (fun q9 => ?_)
      refine q_astore C [(5, .ref q9), (0, .ref (σ.2.1 0)), (1, .int x), (2, .int y), (3, .int z), (4, .ref (σ.2.1 18))] dL_wish_22 (by decide) rfl ?_
      refine q_iconst C (nI 1) dL_wish_24 (by decide) ?_
      refine hR _ _ _ _ _ _ _ ?_ rfl (Nat.le_of_ble_eq_true rfl) (Nat.le_of_ble_eq_true rfl) dL_wish_25
      exact Or.inr ⟨_, hx_7, congrArg nI hcd⟩
    · skip
      refine q_catch C htab [((0, 19, 22, 13), "java/lang/IndexOutOfBoundsException")] 0 19 26 15 "java/lang/IllegalArgumentException" [] rfl (by decide +kernel) (by decide) (by decide) (by decide) (by decide +kernel) (by decide +kernel) (fun q9 => ?_)
      refine q_astore C [(5, .ref q9), (0, .ref (σ.2.1 0)), (1, .int x), (2, .int y), (3, .int z), (4, .ref (σ.2.1 18))] dL_wish_26 (by decide) rfl ?_
      refine q_iconst C (nI 2) dL_wish_28 (by decide) ?_
      refine hR _ _ _ _ _ _ _ ?_ rfl (Nat.le_of_ble_eq_true rfl) (Nat.le_of_ble_eq_true rfl) dL_wish_29
      exact Or.inr ⟨_, hx_7, congrArg nI hcd⟩
  refine q_if_eq C 17 dL_wish_10 (by decide) (fun c_10 => ?_) (fun c_10 => ?_)
  · skip
    refine q_lconst C 0 dL_wish_17 (by decide) ?_
    refine q_lastN C (k := 18) (n := 1) ⟨by decide, by decide, by decide⟩ (by omega) (by decide) dL_wish_18 ?_
    refine q_goto C 30 dL_wish_19 (by decide) ?_
    refine q_iconst C (nI 0) dL_wish_30 (by decide) ?_
    refine hR _ _ _ _ _ _ _ ?_ rfl (Nat.le_of_ble_eq_true rfl) (Nat.le_of_ble_eq_true rfl) dL_wish_31
    exact Or.inl ⟨_, _, _, hq_7, rfl, rfl, by first | rw [if_pos c_10] | rw [if_neg c_10]⟩
  · skip
    refine q_lconst C 1 dL_wish_13 (by decide) ?_
    refine q_goto C 18 dL_wish_14 (by decide) ?_
    refine q_lastN C (k := 18) (n := 1) ⟨by decide, by decide, by decide⟩ (by omega) (by decide) dL_wish_18 ?_
    refine q_goto C 30 dL_wish_19 (by decide) ?_
    refine q_iconst C (nI 0) dL_wish_30 (by decide) ?_
    refine hR _ _ _ _ _ _ _ ?_ rfl (Nat.le_of_ble_eq_true rfl) (Nat.le_of_ble_eq_true rfl) dL_wish_31
    exact Or.inl ⟨_, _, _, hq_7, rfl, rfl, by first | rw [if_pos c_10] | rw [if_neg c_10]⟩
abbrev rL_unwish : Room := { frames := 8, cells := 6, slots := 36, locals := 132 }
set_option maxHeartbeats 4000000 in
set_option maxRecDepth 100000 in
/-- unwish, the law's call -/
theorem kL_unwish (l : Launch) (σ : q_E) (V : q_V) (G : q_G) (hlf : l.stackTraces = false)  (x : Int32) : q_Mi l yL_unwish wsL_unwish rL_unwish σ [.ref (σ.2.1 0), .int x, .ref (σ.2.1 18)] V G (fun k V' G' => (∃ r V1 G1, (fun r V' G' => (q_c1 (q_ok 7 x)) = 0 ∧ q_is (¬ V 13 (q_n x) = -1) r ∧ q_up (q_up V 13 (q_n x) (-1)) 14 (q_n x) (-1) = V' ∧ G = G') r V1 G1 ∧ (0 : Int32) = k ∧ V1 = V' ∧ q_upL G1 18 0 (if r = 0 then (0 : Int64) else 1) = G') ∨ (∃ E, (fun E V' G' => q_xc [xI] (q_c1 (q_ok 7 x)) E ∧ V = V' ∧ G = G') E V' G' ∧ nI (q_c1 (q_ok 7 x)) = k)) 6 36 := by
  refine q_Wi_of (cc := cL_unwish) (maxL := 4) (lv := [(0, .ref (σ.2.1 0)), (1, .int x), (2, .ref (σ.2.1 18))]) (by decide +kernel) rfl (Nat.le_of_ble_eq_true rfl) rfl ?_
  intro p e s m args below meth c Q C htab hR
  refine q_aload_n C dL_unwish_0 rfl 2 rfl ?_
  refine q_iconst C (nI 0) dL_unwish_1 (by decide) ?_
  refine q_aload_n C dL_unwish_2 rfl 0 rfl ?_
  refine q_iload_n C dL_unwish_3 rfl 1 rfl ?_
  refine q_xcallVi C (As := [.int x]) (rest := [.int (nI 0), .ref (σ.2.1 18)]) (k := 0) (by omega) q_enBP rfl rfl (kX2_unwish l σ V G hlf x) 1 gL_unwish_X2_unwish rfl rfl rfl (by decide +kernel) ⟨Nat.le_of_ble_eq_true rfl, Nat.le_of_ble_eq_true rfl⟩ dL_unwish_4 rfl (Nat.le_of_ble_eq_true rfl) ⟨Nat.le_of_ble_eq_true rfl, Nat.le_of_ble_eq_true rfl⟩ (fun E_4 V_1 G_2 hx_4 => ?_) (fun r_4 V_1 G_2 hq_4 => ?_)
  · skip
    rcases q_xc1 hx_4.1 with ⟨hcd, rfl⟩
    · skip
      refine q_catch C htab [] 0 16 19 13 "java/lang/IndexOutOfBoundsException" [] rfl (by decide +kernel) (by decide) (by decide) (by decide) (by decide +kernel) (by decide +kernel) (fun q9 => ?_)
      refine q_astore_n C [(3, .ref q9), (0, .ref (σ.2.1 0)), (1, .int x), (2, .ref (σ.2.1 18))] dL_unwish_19 rfl (by decide) rfl ?_
      refine q_iconst C (nI 1) dL_unwish_20 (by decide) ?_
      refine hR _ _ _ _ _ _ _ ?_ rfl (Nat.le_of_ble_eq_true rfl) (Nat.le_of_ble_eq_true rfl) dL_unwish_21
      exact Or.inr ⟨_, hx_4, congrArg nI hcd⟩
  refine q_if_eq C 14 dL_unwish_7 (by decide) (fun c_7 => ?_) (fun c_7 => ?_)
  · skip
    refine q_lconst C 0 dL_unwish_14 (by decide) ?_
    refine q_lastN C (k := 18) (n := 1) ⟨by decide, by decide, by decide⟩ (by omega) (by decide) dL_unwish_15 ?_
    refine q_goto C 22 dL_unwish_16 (by decide) ?_
    refine q_iconst C (nI 0) dL_unwish_22 (by decide) ?_
    refine hR _ _ _ _ _ _ _ ?_ rfl (Nat.le_of_ble_eq_true rfl) (Nat.le_of_ble_eq_true rfl) dL_unwish_23
    exact Or.inl ⟨_, _, _, hq_4, rfl, rfl, by first | rw [if_pos c_7] | rw [if_neg c_7]⟩
  · skip
    refine q_lconst C 1 dL_unwish_10 (by decide) ?_
    refine q_goto C 15 dL_unwish_11 (by decide) ?_
    refine q_lastN C (k := 18) (n := 1) ⟨by decide, by decide, by decide⟩ (by omega) (by decide) dL_unwish_15 ?_
    refine q_goto C 22 dL_unwish_16 (by decide) ?_
    refine q_iconst C (nI 0) dL_unwish_22 (by decide) ?_
    refine hR _ _ _ _ _ _ _ ?_ rfl (Nat.le_of_ble_eq_true rfl) (Nat.le_of_ble_eq_true rfl) dL_unwish_23
    exact Or.inl ⟨_, _, _, hq_4, rfl, rfl, by first | rw [if_pos c_7] | rw [if_neg c_7]⟩
abbrev rL_chainAt : Room := { frames := 11, cells := 6, slots := 36, locals := 411 }
set_option maxHeartbeats 4000000 in
set_option maxRecDepth 100000 in
/-- chainAt, the law's call -/
theorem kL_chainAt (l : Launch) (σ : q_E) (V : q_V) (G : q_G) (hlf : l.stackTraces = false) (hw2 : ∀ a, a < 7 → V 13 a = -1 ∨ ((∃ c, c < 8 ∧ V 13 a = nI c) ∧ ∃ d, d < 8 ∧ V 14 a = nI d)) (x : Int32) : q_Mi l yL_chainAt wsL_chainAt rL_chainAt σ [.ref (σ.2.1 0), .int x, .ref (σ.2.1 18)] V G (fun k V' G' => (∃ r V1 G1, (fun r V' G' => (q_c1 (q_ok (q_best (q_crd V) (q_cgt V)).length x)) = 0 ∧ nI ((q_best (q_crd V) (q_cgt V)).getD (q_n x) 0) = r ∧ q_boff V V' ∧ G = G') r V1 G1 ∧ (0 : Int32) = k ∧ V1 = V' ∧ q_upL G1 18 0 r.toInt64 = G') ∨ (∃ E, (fun E V' G' => q_xc [xI] (q_c1 (q_ok (q_best (q_crd V) (q_cgt V)).length x)) E ∧ q_boff V V' ∧ G = G') E V' G' ∧ nI (q_c1 (q_ok (q_best (q_crd V) (q_cgt V)).length x)) = k)) 6 36 := by
  refine q_Wi_of (cc := cL_chainAt) (maxL := 4) (lv := [(0, .ref (σ.2.1 0)), (1, .int x), (2, .ref (σ.2.1 18))]) (by decide +kernel) rfl (Nat.le_of_ble_eq_true rfl) rfl ?_
  intro p e s m args below meth c Q C htab hR
  refine q_aload_n C dL_chainAt_0 rfl 2 rfl ?_
  refine q_iconst C (nI 0) dL_chainAt_1 (by decide) ?_
  refine q_aload_n C dL_chainAt_2 rfl 0 rfl ?_
  refine q_iload_n C dL_chainAt_3 rfl 1 rfl ?_
  refine q_xcallVi C (As := [.int x]) (rest := [.int (nI 0), .ref (σ.2.1 18)]) (k := 0) (by omega) q_enBP rfl rfl (kX2_chainAt l σ V G hlf hw2 x) 1 gL_chainAt_X2_chainAt rfl rfl rfl (by decide +kernel) ⟨Nat.le_of_ble_eq_true rfl, Nat.le_of_ble_eq_true rfl⟩ dL_chainAt_4 rfl (Nat.le_of_ble_eq_true rfl) ⟨Nat.le_of_ble_eq_true rfl, Nat.le_of_ble_eq_true rfl⟩ (fun E_4 V_1 G_2 hx_4 => ?_) (fun r_4 V_1 G_2 hq_4 => ?_)
  · skip
    rcases q_xc1 hx_4.1 with ⟨hcd, rfl⟩
    · skip
      refine q_catch C htab [] 0 9 12 13 "java/lang/IndexOutOfBoundsException" [] rfl (by decide +kernel) (by decide) (by decide) (by decide) (by decide +kernel) (by decide +kernel) (fun q9 => ?_)
      refine q_astore_n C [(3, .ref q9), (0, .ref (σ.2.1 0)), (1, .int x), (2, .ref (σ.2.1 18))] dL_chainAt_12 rfl (by decide) rfl ?_
      refine q_iconst C (nI 1) dL_chainAt_13 (by decide) ?_
      refine hR _ _ _ _ _ _ _ ?_ rfl (Nat.le_of_ble_eq_true rfl) (Nat.le_of_ble_eq_true rfl) dL_chainAt_14
      exact Or.inr ⟨_, hx_4, congrArg nI hcd⟩
  refine q_i2l C dL_chainAt_7 ?_
  refine q_lastN C (k := 18) (n := 1) ⟨by decide, by decide, by decide⟩ (by omega) (by decide) dL_chainAt_8 ?_
  refine q_goto C 15 dL_chainAt_9 (by decide) ?_
  refine q_iconst C (nI 0) dL_chainAt_15 (by decide) ?_
  refine hR _ _ _ _ _ _ _ ?_ rfl (Nat.le_of_ble_eq_true rfl) (Nat.le_of_ble_eq_true rfl) dL_chainAt_16
  exact Or.inl ⟨_, _, _, hq_4, rfl, rfl, rfl⟩
abbrev rL_sign : Room := { frames := 8, cells := 6, slots := 36, locals := 243 }
set_option maxHeartbeats 4000000 in
set_option maxRecDepth 100000 in
/-- sign, the law's call -/
theorem kL_sign (l : Launch) (σ : q_E) (V : q_V) (G : q_G) (hlf : l.stackTraces = false) {w h : Nat} (hd : q_gok V 0 w h) {ns : Nat} (hs : V 0 13 = nI ns) (hs2 : ns ≤ 8) (x : Int32) : q_Mi l yL_sign wsL_sign rL_sign σ [.ref (σ.2.1 0), .int x, .ref (σ.2.1 18)] V G (fun k V' G' => (∃ r V1 G1, (fun r V' G' => (q_c2 (¬ x < nI 1 ∧ ¬ nI 100 < x) (w ≤ 3 ∧ h ≤ 3 ∧ ns ≠ 8)) = 0 ∧ (nI ns) = r ∧ (q_up (q_up (q_cpy (q_up (q_up V (27 + (13 + ns)) 1 (V (27 + 0) 1)) (27 + (13 + ns)) 2 (V (27 + 0) 2)) (48 + 0) (48 + (13 + ns)) 48) 11 ns x) 0 13 (nI (ns + 1))) = V' ∧ G = G') r V1 G1 ∧ (0 : Int32) = k ∧ V1 = V' ∧ q_upL G1 18 0 r.toInt64 = G') ∨ (∃ E, (fun E V' G' => q_xc [xA, xS] (q_c2 (¬ x < nI 1 ∧ ¬ nI 100 < x) (w ≤ 3 ∧ h ≤ 3 ∧ ns ≠ 8)) E ∧ V = V' ∧ G = G') E V' G' ∧ nI (q_c2 (¬ x < nI 1 ∧ ¬ nI 100 < x) (w ≤ 3 ∧ h ≤ 3 ∧ ns ≠ 8)) = k)) 6 36 := by
  refine q_Wi_of (cc := cL_sign) (maxL := 4) (lv := [(0, .ref (σ.2.1 0)), (1, .int x), (2, .ref (σ.2.1 18))]) (by decide +kernel) rfl (Nat.le_of_ble_eq_true rfl) rfl ?_
  intro p e s m args below meth c Q C htab hR
  refine q_aload_n C dL_sign_0 rfl 2 rfl ?_
  refine q_iconst C (nI 0) dL_sign_1 (by decide) ?_
  refine q_aload_n C dL_sign_2 rfl 0 rfl ?_
  refine q_iload_n C dL_sign_3 rfl 1 rfl ?_
  refine q_xcallVi C (As := [.int x]) (rest := [.int (nI 0), .ref (σ.2.1 18)]) (k := 0) (by omega) q_enBP rfl rfl (kX2_sign l σ V G hlf hd hs hs2 x) 1 gL_sign_X2_sign rfl rfl rfl (by decide +kernel) ⟨Nat.le_of_ble_eq_true rfl, Nat.le_of_ble_eq_true rfl⟩ dL_sign_4 rfl (Nat.le_of_ble_eq_true rfl) ⟨Nat.le_of_ble_eq_true rfl, Nat.le_of_ble_eq_true rfl⟩ (fun E_4 V_1 G_2 hx_4 => ?_) (fun r_4 V_1 G_2 hq_4 => ?_)
  · skip
    rcases q_xc2 hx_4.1 with ⟨hcd, rfl⟩ | ⟨hcd, rfl⟩
    · skip
      refine q_catch C htab [] 0 9 12 15 "java/lang/IllegalArgumentException" [(0, 9, 15, 17)] rfl (by decide +kernel) (by decide) (by decide) (by decide) (by decide +kernel) (by decide +kernel) (fun q9 => ?_)
      refine q_astore_n C [(3, .ref q9), (0, .ref (σ.2.1 0)), (1, .int x), (2, .ref (σ.2.1 18))] dL_sign_12 rfl (by decide) rfl ?_
      refine q_iconst C (nI 1) dL_sign_13 (by decide) ?_
      refine hR _ _ _ _ _ _ _ ?_ rfl (Nat.le_of_ble_eq_true rfl) (Nat.le_of_ble_eq_true rfl) dL_sign_14
      exact Or.inr ⟨_, hx_4, congrArg nI hcd⟩
    · skip
      refine q_catch C htab [((0, 9, 12, 15), "java/lang/IllegalArgumentException")] 0 9 15 17 "java/lang/IllegalStateException" [] rfl (by decide +kernel) (by decide) (by decide) (by decide) (by decide +kernel) (by decide +kernel) (fun q9 => ?_)
      refine q_astore_n C [(3, .ref q9), (0, .ref (σ.2.1 0)), (1, .int x), (2, .ref (σ.2.1 18))] dL_sign_15 rfl (by decide) rfl ?_
      refine q_iconst C (nI 2) dL_sign_16 (by decide) ?_
      refine hR _ _ _ _ _ _ _ ?_ rfl (Nat.le_of_ble_eq_true rfl) (Nat.le_of_ble_eq_true rfl) dL_sign_17
      exact Or.inr ⟨_, hx_4, congrArg nI hcd⟩
  refine q_i2l C dL_sign_7 ?_
  refine q_lastN C (k := 18) (n := 1) ⟨by decide, by decide, by decide⟩ (by omega) (by decide) dL_sign_8 ?_
  refine q_goto C 18 dL_sign_9 (by decide) ?_
  refine q_iconst C (nI 0) dL_sign_18 (by decide) ?_
  refine hR _ _ _ _ _ _ _ ?_ rfl (Nat.le_of_ble_eq_true rfl) (Nat.le_of_ble_eq_true rfl) dL_sign_19
  exact Or.inl ⟨_, _, _, hq_4, rfl, rfl, rfl⟩
abbrev rL_stands : Room := { frames := 8, cells := 6, slots := 36, locals := 133 }
set_option maxHeartbeats 4000000 in
set_option maxRecDepth 100000 in
/-- stands, the law's call -/
theorem kL_stands (l : Launch) (σ : q_E) (V : q_V) (G : q_G) (hlf : l.stackTraces = false) {n : Nat} (hn : V 0 6 = nI n) (hn2 : n ≤ 12) (hp : q_cpats V n) {ns : Nat} (hs : V 0 13 = nI ns) (hs2 : ns ≤ 8) (hsg : q_csgs V ns) (x y : Int32) : q_Mi l yL_stands wsL_stands rL_stands σ [.ref (σ.2.1 0), .int x, .int y, .ref (σ.2.1 18)] V G (fun k V' G' => (∃ r V1 G1, (fun r V' G' => (q_c1 (q_ok ns x ∧ q_ok n y)) = 0 ∧ (nI (q_places V (1 + q_n y) (q_gw V (1 + q_n y)) (q_gh V (1 + q_n y)) (13 + q_n x) (q_gw V (13 + q_n x)) (q_gh V (13 + q_n x)))) = r ∧ V = V' ∧ G = G') r V1 G1 ∧ (0 : Int32) = k ∧ V1 = V' ∧ q_upL G1 18 0 r.toInt64 = G') ∨ (∃ E, (fun E V' G' => q_xc [xI] (q_c1 (q_ok ns x ∧ q_ok n y)) E ∧ V = V' ∧ G = G') E V' G' ∧ nI (q_c1 (q_ok ns x ∧ q_ok n y)) = k)) 6 36 := by
  refine q_Wi_of (cc := cL_stands) (maxL := 5) (lv := [(0, .ref (σ.2.1 0)), (1, .int x), (2, .int y), (3, .ref (σ.2.1 18))]) (by decide +kernel) rfl (Nat.le_of_ble_eq_true rfl) rfl ?_
  intro p e s m args below meth c Q C htab hR
  refine q_aload_n C dL_stands_0 rfl 3 rfl ?_
  refine q_iconst C (nI 0) dL_stands_1 (by decide) ?_
  refine q_aload_n C dL_stands_2 rfl 0 rfl ?_
  refine q_iload_n C dL_stands_3 rfl 1 rfl ?_
  refine q_iload_n C dL_stands_4 rfl 2 rfl ?_
  refine q_xcallVi C (As := [.int x, .int y]) (rest := [.int (nI 0), .ref (σ.2.1 18)]) (k := 0) (by omega) q_enBP rfl rfl (kX2_stands l σ V G hlf hn hn2 hp hs hs2 hsg x y) 2 gL_stands_X2_stands rfl rfl rfl (by decide +kernel) ⟨Nat.le_of_ble_eq_true rfl, Nat.le_of_ble_eq_true rfl⟩ dL_stands_5 rfl (Nat.le_of_ble_eq_true rfl) ⟨Nat.le_of_ble_eq_true rfl, Nat.le_of_ble_eq_true rfl⟩ (fun E_5 V_1 G_2 hx_5 => ?_) (fun r_5 V_1 G_2 hq_5 => ?_)
  · skip
    rcases q_xc1 hx_5.1 with ⟨hcd, rfl⟩
    · skip
      refine q_catch C htab [] 0 10 13 13 "java/lang/IndexOutOfBoundsException" [] rfl (by decide +kernel) (by decide) (by decide) (by decide) (by decide +kernel) (by decide +kernel) (fun q9 => ?_)
      refine q_astore C [(4, .ref q9), (0, .ref (σ.2.1 0)), (1, .int x), (2, .int y), (3, .ref (σ.2.1 18))] dL_stands_13 (by decide) rfl ?_
      refine q_iconst C (nI 1) dL_stands_15 (by decide) ?_
      refine hR _ _ _ _ _ _ _ ?_ rfl (Nat.le_of_ble_eq_true rfl) (Nat.le_of_ble_eq_true rfl) dL_stands_16
      exact Or.inr ⟨_, hx_5, congrArg nI hcd⟩
  refine q_i2l C dL_stands_8 ?_
  refine q_lastN C (k := 18) (n := 1) ⟨by decide, by decide, by decide⟩ (by omega) (by decide) dL_stands_9 ?_
  refine q_goto C 17 dL_stands_10 (by decide) ?_
  refine q_iconst C (nI 0) dL_stands_17 (by decide) ?_
  refine hR _ _ _ _ _ _ _ ?_ rfl (Nat.le_of_ble_eq_true rfl) (Nat.le_of_ble_eq_true rfl) dL_stands_18
  exact Or.inl ⟨_, _, _, hq_5, rfl, rfl, rfl⟩
abbrev rL_story : Room := { frames := 8, cells := 6, slots := 36, locals := 132 }
set_option maxHeartbeats 4000000 in
set_option maxRecDepth 100000 in
/-- story, the law's call -/
theorem kL_story (l : Launch) (σ : q_E) (V : q_V) (G : q_G) (hlf : l.stackTraces = false) {n : Nat} (hn : V 0 6 = nI n) (hn2 : n ≤ 12) (hp : q_cpats V n) {ns : Nat} (hs : V 0 13 = nI ns) (hs2 : ns ≤ 8) (hsg : q_csgs V ns) (x : Int32) : q_Mi l yL_story wsL_story rL_story σ [.ref (σ.2.1 0), .int x, .ref (σ.2.1 18)] V G (fun k V' G' => (∃ r V1 G1, (fun r V' G' => (q_c1 (q_ok n x)) = 0 ∧ (q_cstory V (q_n x) ns) = r ∧ V = V' ∧ G = G') r V1 G1 ∧ (0 : Int32) = k ∧ V1 = V' ∧ q_upL G1 18 0 r.toInt64 = G') ∨ (∃ E, (fun E V' G' => q_xc [xI] (q_c1 (q_ok n x)) E ∧ V = V' ∧ G = G') E V' G' ∧ nI (q_c1 (q_ok n x)) = k)) 6 36 := by
  refine q_Wi_of (cc := cL_story) (maxL := 4) (lv := [(0, .ref (σ.2.1 0)), (1, .int x), (2, .ref (σ.2.1 18))]) (by decide +kernel) rfl (Nat.le_of_ble_eq_true rfl) rfl ?_
  intro p e s m args below meth c Q C htab hR
  refine q_aload_n C dL_story_0 rfl 2 rfl ?_
  refine q_iconst C (nI 0) dL_story_1 (by decide) ?_
  refine q_aload_n C dL_story_2 rfl 0 rfl ?_
  refine q_iload_n C dL_story_3 rfl 1 rfl ?_
  refine q_xcallVi C (As := [.int x]) (rest := [.int (nI 0), .ref (σ.2.1 18)]) (k := 0) (by omega) q_enBP rfl rfl (kX2_story l σ V G hlf hn hn2 hp hs hs2 hsg x) 1 gL_story_X2_story rfl rfl rfl (by decide +kernel) ⟨Nat.le_of_ble_eq_true rfl, Nat.le_of_ble_eq_true rfl⟩ dL_story_4 rfl (Nat.le_of_ble_eq_true rfl) ⟨Nat.le_of_ble_eq_true rfl, Nat.le_of_ble_eq_true rfl⟩ (fun E_4 V_1 G_2 hx_4 => ?_) (fun r_4 V_1 G_2 hq_4 => ?_)
  · skip
    rcases q_xc1 hx_4.1 with ⟨hcd, rfl⟩
    · skip
      refine q_catch C htab [] 0 9 12 13 "java/lang/IndexOutOfBoundsException" [] rfl (by decide +kernel) (by decide) (by decide) (by decide) (by decide +kernel) (by decide +kernel) (fun q9 => ?_)
      refine q_astore_n C [(3, .ref q9), (0, .ref (σ.2.1 0)), (1, .int x), (2, .ref (σ.2.1 18))] dL_story_12 rfl (by decide) rfl ?_
      refine q_iconst C (nI 1) dL_story_13 (by decide) ?_
      refine hR _ _ _ _ _ _ _ ?_ rfl (Nat.le_of_ble_eq_true rfl) (Nat.le_of_ble_eq_true rfl) dL_story_14
      exact Or.inr ⟨_, hx_4, congrArg nI hcd⟩
  refine q_i2l C dL_story_7 ?_
  refine q_lastN C (k := 18) (n := 1) ⟨by decide, by decide, by decide⟩ (by omega) (by decide) dL_story_8 ?_
  refine q_goto C 15 dL_story_9 (by decide) ?_
  refine q_iconst C (nI 0) dL_story_15 (by decide) ?_
  refine hR _ _ _ _ _ _ _ ?_ rfl (Nat.le_of_ble_eq_true rfl) (Nat.le_of_ble_eq_true rfl) dL_story_16
  exact Or.inl ⟨_, _, _, hq_4, rfl, rfl, rfl⟩
abbrev rL_hear : Room := { frames := 8, cells := 6, slots := 36, locals := 133 }
set_option maxHeartbeats 4000000 in
set_option maxRecDepth 100000 in
/-- hear, the law's call -/
theorem kL_hear (l : Launch) (σ : q_E) (V : q_V) (G : q_G) (hlf : l.stackTraces = false) {n : Nat} (hn2 : n ≤ 12) (hp : q_cpats V n) (hbl : q_cbelts V n) {ns : Nat} (hs : V 0 13 = nI ns) (hs2 : ns ≤ 8) (hsg : q_csgs V ns) (x y : Int32) : q_Mi l yL_hear wsL_hear rL_hear σ [.ref (σ.2.1 0), .int x, .int y, .ref (σ.2.1 18)] V G (fun k V' G' => (∃ r V1 G1, (fun r V' G' => (q_c1 ((q_cisb V x) ∧ q_ok 7 y)) = 0 ∧ (G 12 (q_n y) + (q_cstory V (q_n (V 6 (q_n x))) ns).toInt64) = r ∧ V = V' ∧ q_upL G 12 (q_n y) (G 12 (q_n y) + (q_cstory V (q_n (V 6 (q_n x))) ns).toInt64) = G') r V1 G1 ∧ (0 : Int32) = k ∧ V1 = V' ∧ q_upL G1 18 0 r = G') ∨ (∃ E, (fun E V' G' => q_xc [xI] (q_c1 ((q_cisb V x) ∧ q_ok 7 y)) E ∧ V = V' ∧ G = G') E V' G' ∧ nI (q_c1 ((q_cisb V x) ∧ q_ok 7 y)) = k)) 6 36 := by
  refine q_Wi_of (cc := cL_hear) (maxL := 5) (lv := [(0, .ref (σ.2.1 0)), (1, .int x), (2, .int y), (3, .ref (σ.2.1 18))]) (by decide +kernel) rfl (Nat.le_of_ble_eq_true rfl) rfl ?_
  intro p e s m args below meth c Q C htab hR
  refine q_aload_n C dL_hear_0 rfl 3 rfl ?_
  refine q_iconst C (nI 0) dL_hear_1 (by decide) ?_
  refine q_aload_n C dL_hear_2 rfl 0 rfl ?_
  refine q_iload_n C dL_hear_3 rfl 1 rfl ?_
  refine q_iload_n C dL_hear_4 rfl 2 rfl ?_
  refine q_xcallVl C (As := [.int x, .int y]) (rest := [.int (nI 0), .ref (σ.2.1 18)]) (k := 0) (by omega) q_enBP rfl rfl (kX2_hear l σ V G hlf hn2 hp hbl hs hs2 hsg x y) 2 gL_hear_X2_hear rfl rfl rfl (by decide +kernel) ⟨Nat.le_of_ble_eq_true rfl, Nat.le_of_ble_eq_true rfl⟩ dL_hear_5 rfl (Nat.le_of_ble_eq_true rfl) ⟨Nat.le_of_ble_eq_true rfl, Nat.le_of_ble_eq_true rfl⟩ (fun E_5 V_1 G_2 hx_5 => ?_) (fun r_5 V_1 G_2 hq_5 => ?_)
  · skip
    rcases q_xc1 hx_5.1 with ⟨hcd, rfl⟩
    · skip
      refine q_catch C htab [] 0 9 12 13 "java/lang/IndexOutOfBoundsException" [] rfl (by decide +kernel) (by decide) (by decide) (by decide) (by decide +kernel) (by decide +kernel) (fun q9 => ?_)
      refine q_astore C [(4, .ref q9), (0, .ref (σ.2.1 0)), (1, .int x), (2, .int y), (3, .ref (σ.2.1 18))] dL_hear_12 (by decide) rfl ?_
      refine q_iconst C (nI 1) dL_hear_14 (by decide) ?_
      refine hR _ _ _ _ _ _ _ ?_ rfl (Nat.le_of_ble_eq_true rfl) (Nat.le_of_ble_eq_true rfl) dL_hear_15
      exact Or.inr ⟨_, hx_5, congrArg nI hcd⟩
  refine q_lastN C (k := 18) (n := 1) ⟨by decide, by decide, by decide⟩ (by omega) (by decide) dL_hear_8 ?_
  refine q_goto C 16 dL_hear_9 (by decide) ?_
  refine q_iconst C (nI 0) dL_hear_16 (by decide) ?_
  refine hR _ _ _ _ _ _ _ ?_ rfl (Nat.le_of_ble_eq_true rfl) (Nat.le_of_ble_eq_true rfl) dL_hear_17
  exact Or.inl ⟨_, _, _, hq_5, rfl, rfl, rfl⟩
abbrev rL_ranked : Room := { frames := 7, cells := 6, slots := 36, locals := 112 }
set_option maxHeartbeats 4000000 in
set_option maxRecDepth 100000 in
/-- ranked, the law's call -/
theorem kL_ranked (l : Launch) (σ : q_E) (V : q_V) (G : q_G) (hlf : l.stackTraces = false)  (x : Int32) : q_Mi l yL_ranked wsL_ranked rL_ranked σ [.ref (σ.2.1 0), .int x, .ref (σ.2.1 18)] V G (fun k V' G' => (∃ r V1 G1, (fun r V' G' => (q_c1 (q_ok 7 x)) = 0 ∧ (∃ k, k ≤ 6 ∧ (∀ p, p < k → ¬ nI (q_rk (G 12) p) = x) ∧ (k < 6 → nI (q_rk (G 12) k) = x) ∧ nI k = r) ∧ V = V' ∧ G = G') r V1 G1 ∧ (0 : Int32) = k ∧ V1 = V' ∧ q_upL G1 18 0 r.toInt64 = G') ∨ (∃ E, (fun E V' G' => q_xc [xI] (q_c1 (q_ok 7 x)) E ∧ V = V' ∧ G = G') E V' G' ∧ nI (q_c1 (q_ok 7 x)) = k)) 6 36 := by
  refine q_Wi_of (cc := cL_ranked) (maxL := 4) (lv := [(0, .ref (σ.2.1 0)), (1, .int x), (2, .ref (σ.2.1 18))]) (by decide +kernel) rfl (Nat.le_of_ble_eq_true rfl) rfl ?_
  intro p e s m args below meth c Q C htab hR
  refine q_aload_n C dL_ranked_0 rfl 2 rfl ?_
  refine q_iconst C (nI 0) dL_ranked_1 (by decide) ?_
  refine q_aload_n C dL_ranked_2 rfl 0 rfl ?_
  refine q_iload_n C dL_ranked_3 rfl 1 rfl ?_
  refine q_xcallVi C (As := [.int x]) (rest := [.int (nI 0), .ref (σ.2.1 18)]) (k := 0) (by omega) q_enBP rfl rfl (kX2_ranked l σ V G hlf x) 1 gL_ranked_X2_ranked rfl rfl rfl (by decide +kernel) ⟨Nat.le_of_ble_eq_true rfl, Nat.le_of_ble_eq_true rfl⟩ dL_ranked_4 rfl (Nat.le_of_ble_eq_true rfl) ⟨Nat.le_of_ble_eq_true rfl, Nat.le_of_ble_eq_true rfl⟩ (fun E_4 V_1 G_2 hx_4 => ?_) (fun r_4 V_1 G_2 hq_4 => ?_)
  · skip
    rcases q_xc1 hx_4.1 with ⟨hcd, rfl⟩
    · skip
      refine q_catch C htab [] 0 9 12 13 "java/lang/IndexOutOfBoundsException" [] rfl (by decide +kernel) (by decide) (by decide) (by decide) (by decide +kernel) (by decide +kernel) (fun q9 => ?_)
      refine q_astore_n C [(3, .ref q9), (0, .ref (σ.2.1 0)), (1, .int x), (2, .ref (σ.2.1 18))] dL_ranked_12 rfl (by decide) rfl ?_
      refine q_iconst C (nI 1) dL_ranked_13 (by decide) ?_
      refine hR _ _ _ _ _ _ _ ?_ rfl (Nat.le_of_ble_eq_true rfl) (Nat.le_of_ble_eq_true rfl) dL_ranked_14
      exact Or.inr ⟨_, hx_4, congrArg nI hcd⟩
  refine q_i2l C dL_ranked_7 ?_
  refine q_lastN C (k := 18) (n := 1) ⟨by decide, by decide, by decide⟩ (by omega) (by decide) dL_ranked_8 ?_
  refine q_goto C 15 dL_ranked_9 (by decide) ?_
  refine q_iconst C (nI 0) dL_ranked_15 (by decide) ?_
  refine hR _ _ _ _ _ _ _ ?_ rfl (Nat.le_of_ble_eq_true rfl) (Nat.le_of_ble_eq_true rfl) dL_ranked_16
  exact Or.inl ⟨_, _, _, hq_4, rfl, rfl, rfl⟩
