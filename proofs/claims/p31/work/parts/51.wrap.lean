theorem q_Wi_of {l : Launch} {y : MethodName} {ws ws' : List Cond} {rm : Room} {σ : q_E} {As : List Value} {V : q_V} {G : q_G} {mc ms : Nat} {cc : ByteArray} {maxL : Nat} {lv : List (Nat × Value)} {ty : FieldType} {hh : List (Nat × Nat × Nat × Nat)} {post : Int32 → q_V → q_G → Prop} (hy : plainName y.cls = true) (hw : ws = Cond.codeWith y cc maxL (some ty) hh :: ws') (hlen : (lg_sl As).length ≤ maxL) (hlv : lv_args 0 As = lv) (body : ∀ (p : Program) (e : Env) (s : State) (m : MethodId) (args : Array Value) (below : List Frame) (meth : Method) (c : Code) (Q : State → Prop), q_C σ p s m args c cc maxL y.cls ws → c.exceptionTable.toList.map (fun h => (h.startPc, h.endPc, h.handlerPc, h.catchType)) = hh → q_Ri σ p l e rm s m args below meth c Q maxL cc ty post mc ms → q_W σ p l e rm s m args below meth c Q maxL 0 0 V G lv 0 []) : q_Mi l y ws rm σ As V G post mc ms := by
  intro sz
  have hcw : ∀ {args : Array Value} {s : State}, (headSpec ws rm).pre.before args s = true → (Cond.codeWith y cc maxL (some ty) hh).before args s = true := fun h => atoms_spec (ws := ws) h _ (by rw [hw]; exact List.mem_cons_self)
  refine MetFree.of_bodyS (code := cc) (maxLocals := maxL) (ret := some ty) hy ?_ ?_
  · intro args s m h hn
    obtain ⟨m9, meth, c, hn9, h1, h2, h3, h4, -, h5, h6, -⟩ := Cond.codeWith_spec (hcw h)
    cases hn.symm.trans hn9
    exact ⟨meth, c, h1, h2, h3, h4, h5, h6⟩
  · intro p e s m args below meth c s₁ B hml hv _
    have hh0 : s₁.heap = s.heap := by rw [B.state]; rfl
    have ht : c.exceptionTable.toList.map (fun h => (h.startPc, h.endPc, h.handlerPc, h.catchType)) = hh := by
      obtain ⟨m9, meth9, c9, hn9, h1, h2, h3, h4, h5, -⟩ := Cond.codeWith_spec (hcw B.pre)
      cases B.named.symm.trans hn9
      cases Option.some.inj (h1.symm.trans B.method)
      cases Option.some.inj (h2.symm.trans (Stand.of_body B).code)
      exact h5
    obtain ⟨rfl, hsz, hP, hK⟩ := hv
    have hl := lv_entry As (n := maxL) hlen
    subst hsz
    rw [hlv] at hl
    have hb := body p e s m _ below meth c (MQ below (va_Qi (fun r (u : q_V × q_G) => post r u.1 u.2) (q_B σ) (q_A σ s.heap.size)) As.toArray s mc ms (q_A σ s.heap.size)) ⟨B.exec, B.bytes, hml, findClass_of_methodNamed B.named, atoms_spec (ws := ws) B.pre, hK⟩ ht (by
      intro cells slots V' G' lv' pc r hr hn hc hs hd H locs ls hP' hS' hl'
      refine W.widen (k := mc) (n := ms) hc hs ?_
      exact W.zret (v := r) B.exec B.bytes B.returns hn (fun t ht hW => ⟨⟨r, (V', G'), rfl, hr, by show va_P _ _ _ t.heap; rw [ht]; exact hP'⟩, hS'.F ht⟩) hS'.2.2 hd B.notSynchronized) s.heap [] _ hP va_S.rf hl
    rw [← lg_entry_eq] at hb
    obtain ⟨t, a1, o, b1, b2, b3⟩ := hb s₁ hh0 (Stand.of_body B)
    exact ⟨t, o, a1, b1, b2, ⟨b3.1, b3.2⟩⟩
section QCATCH
variable {σ : q_E} {p : Program} {l : Launch} {e : Env} {R : Room} {s : State} {m : MethodId} {args : Array Value} {below : List Frame} {meth : Method} {c : Code} {Q : State → Prop} {nL cells slots : Nat} {V : q_V} {G : q_G} {lv : List (Nat × Value)} {pc : Nat} {rest : List Value} {cc : ByteArray} {own : String} {Ts : List Cond}
theorem q_catch (C : q_C σ p s m args c cc nL own Ts) {hh : List (Nat × Nat × Nat × Nat)} (htab : c.exceptionTable.toList.map (fun h => (h.startPc, h.endPc, h.handlerPc, h.catchType)) = hh) (pre : List ((Nat × Nat × Nat × Nat) × String)) (a b t ct : Nat) (E : String) (suf : List (Nat × Nat × Nat × Nat)) (hsp : hh = pre.map Prod.fst ++ (a, b, t, ct) :: suf)
    (hp : ∀ z ∈ pre, z.1.2.2.2 ≠ 0 ∧ Cond.classLink own z.1.2.2.2 z.2 ∈ Ts ∧ (E, z.2) ∈ q_nc) (ha : a ≤ pc) (hb : pc < b) (hct : ct ≠ 0) (hl : Cond.classLink own ct E ∈ Ts) (hc : Cond.castable E E ∈ q_nx) (kk : ∀ q9 : Addr, q_W σ p l e R s m args below meth c Q nL cells slots V G lv t [.ref q9]) : q_X σ p l e R s m args below meth c Q nL cells slots E V G lv pc rest := by
  intro H locs ls ce q9 hP hS hl9 h1 h2 h3
  rw [hsp] at htab
  obtain ⟨L1, L2, e1, e2, e3⟩ := List.map_eq_append_iff.mp htab
  obtain ⟨x, L3, e4, e5, e6⟩ := List.map_eq_cons_iff.mp e3
  have ex1 : x.startPc = a := congrArg (fun z => z.1) e5
  have ex2 : x.endPc = b := congrArg (fun z => z.2.1) e5
  have ex3 : x.handlerPc = t := congrArg (fun z => z.2.2.1) e5
  have ex4 : x.catchType = ct := congrArg (fun z => z.2.2.2) e5
  refine vx_catch (own := own) (name := E) C.2.2.2.1 L1 x L3 (by rw [e1, e4]) (fun z hz => ?_) (by unfold covers; rw [ex1, ex2]; simp [ha, hb]) (by rw [ex4]; exact hct) (by rw [ex4]; exact C.2.2.2.2.1 _ hl) (va_Nw.use (q_nx_tab _ hc) (C.2.2.2.2.2.2.2.1 _ (q_nx_nw _ hc))) h1 h2 h3 (by rw [ex3]; exact kk q9 H locs ls hP hS hl9)
  have hm : (z.startPc, z.endPc, z.handlerPc, z.catchType) ∈ pre.map Prod.fst := by rw [← e2]; exact List.mem_map.mpr ⟨z, hz, rfl⟩
  obtain ⟨w, hw, ew⟩ := List.mem_map.mp hm
  obtain ⟨w1, w2, w3⟩ := hp w hw
  have ew4 : w.1.2.2.2 = z.catchType := congrArg (fun z => z.2.2.2) ew
  rw [ew4] at w1 w2
  exact Or.inr ⟨w1, w.2, C.2.2.2.2.1 _ w2, C.2.2.2.2.2.2.2.2.2.2.2 _ w3⟩
end QCATCH
theorem q_xc1 {a : String} {k : Nat} {E : String} (h : q_xc [a] k E) : k = 1 ∧ a = E := by
  obtain ⟨h1, h2⟩ := h
  match k, h1, h2 with
  | 1, _, h2 => exact ⟨rfl, Option.some.inj h2⟩
  | k + 2, _, h2 => cases h2
theorem q_xc2 {a b : String} {k : Nat} {E : String} (h : q_xc [a, b] k E) : (k = 1 ∧ a = E) ∨ (k = 2 ∧ b = E) := by
  obtain ⟨h1, h2⟩ := h
  match k, h1, h2 with
  | 1, _, h2 => exact Or.inl ⟨rfl, Option.some.inj h2⟩
  | 2, _, h2 => exact Or.inr ⟨rfl, Option.some.inj h2⟩
  | k + 3, _, h2 => cases h2
theorem q_xc3 {a b d : String} {k : Nat} {E : String} (h : q_xc [a, b, d] k E) : (k = 1 ∧ a = E) ∨ (k = 2 ∧ b = E) ∨ (k = 3 ∧ d = E) := by
  obtain ⟨h1, h2⟩ := h
  match k, h1, h2 with
  | 1, _, h2 => exact Or.inl ⟨rfl, Option.some.inj h2⟩
  | 2, _, h2 => exact Or.inr (Or.inl ⟨rfl, Option.some.inj h2⟩)
  | 3, _, h2 => exact Or.inr (Or.inr ⟨rfl, Option.some.inj h2⟩)
  | k + 4, _, h2 => cases h2
