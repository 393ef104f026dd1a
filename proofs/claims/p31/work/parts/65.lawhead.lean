/-! THE CLAIM OUT OF ONE WALK OF THE LAW'S BODY. Your part is whole_start (and what it stands on); all else here is the same for every law, but numbers. -/
def R_law : String := "BeadParleyLaw"
def lw_P (b : Addr) (xs : List Int32) (args : Array Value) (s : State) : Prop := args = #[.ref b] ∧ s.IntsAt b xs ∧ xs.length ≤ 260 ∧ (Jvm.Cond.and given_1 narrow_1).before args s = true
def lw_Q (_ : Array Value) (s : State) (o : Outcome) (t : State) : Prop := o = .returned (some (.int 1)) ∧ Framed s o t [] 658728 7125285
def lw_Z (below : List Frame) (a : Array Value) (s : State) : State → Prop := fun t => ∃ o, t.status = .running ∧ Ended t below o ∧ lw_Q a s o t
/-- the law's own end, with 1 on the stack, nothing written that was there before, its room as the claim has it -/
theorem lw_ret {p : Program} {l : Launch} {e : Env} {s : State} {m : MethodId} {below : List Frame} {meth : Method} {c : Code} {b : Nat} (hx : p.tables.exec = Jvm.exec) (hb : c.code = code) (hr : meth.sig.returnType = ret) (hlocks : meth.locks = false) {pc : Nat} {H : Heap} {ls : Array Slot} (hdg : decode code pc = .ok (.ireturn, 1)) : W p l e room_1 s m #[Value.ref b] below meth c H [] 658728 7125285 (lw_Z below #[Value.ref b] s) (F0 m pc ls [.int 1]) := by
  intro T hT X
  obtain ⟨fs, hret, hrun, hended, hW, hframe⟩ := X.leave (v := some (.int 1)) (hlocks := hlocks) (fun h => by rw [hr] at h; cases h)
  have hmeth' : T.vm.method? m = some meth := X.method'
  refine ⟨T.setFrames fs, ?_, .returned (some (.int 1)), hrun, hended, rfl, ⟨_, rfl⟩, hW, hframe⟩
  jvm_step X.here [X.here.top, hx, hb, hdg, hmeth', hr, ret, narrow_b1]
  (try refine ⟨rfl, ?_⟩); (try refine ⟨rfl, ?_⟩)
  first | (intro acts; rw [hret _ acts rfl rfl rfl]) | rw [hret _ _ rfl rfl rfl]
  exact Steps.refl _
/-- what holds at the law's entry: the machine, the code, the tables' words (any of lw_tbl by 'hts w (by decide +kernel)'), the script of L ints xs at the cell b, what the Statement gives of the start (any of its parts by flat_of_before) -/
def lw_At (p : Program) (s : State) (m : MethodId) (meth : Method) (c : Code) (b L : Nat) (xs : Nat → Int32) : Prop :=
  p.tables.exec = Jvm.exec ∧ c.code = code ∧ meth.sig.returnType = ret ∧ c.maxLocals = 21 ∧ s.vm.findClass R_law = some m.cls ∧ (∀ w ∈ lw_tbl, w.before #[Value.ref b] s = true) ∧ va_X b L xs s s.heap ∧ b < s.heap.size ∧ meth.locks = false ∧ (Jvm.Cond.and given_1 narrow_1).before #[Value.ref b] s = true
theorem w_ret {σ : q_E} {p : Program} {l : Launch} {e : Env} {s : State} {m : MethodId} {below : List Frame} {meth : Method} {c : Code} {nL cells slots : Nat} {V : q_V} {G : q_G} {lv : List (Nat × Value)} {pc : Nat} {own : String} {Ts : List Cond} {b : Nat} (C : q_C σ p s m #[Value.ref b] c code nL own Ts) (hr : meth.sig.returnType = ret) (hlocks : meth.locks = false) (hσ : ∀ k, k < 75 → s.heap.size ≤ σ.2.1 k) (hd : decode code pc = .ok (.ireturn, 1)) (h1 : cells ≤ 658728) (h2 : slots ≤ 7125285) : q_W σ p l e room_1 s m #[Value.ref b] below meth c (lw_Z below #[Value.ref b] s) nL cells slots V G lv pc [.int 1] := fun H locs ls hP hS hl =>
  W.widen h1 h2 (va_forget (fun q hq => (hS.2.2 q hq).elim (fun ⟨k, hk, hq⟩ => by rw [hq]; exact hσ k hk) (fun h => h)) (lw_ret C.1 C.2.1 hr hlocks hd))
/-! frames: what a change elsewhere leaves -/
theorem zR1_fr {V U : q_V} {B B2 : Nat} (h : zR1 V B) (hB : B ≤ B2) (h72 : ∀ j, j < 56 → U 72 j = V 72 j) (hh : ∀ p c, p < 7 → c < 8 → U (20 + p) c = V (20 + p) c) : zR1 U B2 := fun p c hp hc => by
  rw [h72 _ (by omega), hh p c hp hc]
  obtain ⟨a1, m, a2, a3⟩ := h p c hp hc
  exact ⟨a1, m, by omega, a3⟩
theorem zR2_fr {V U : q_V} {B B2 n : Nat} (h : zR2 V B) (hB : B ≤ B2) (hn : n ≤ 12) (h7 : zR7 V n) (h72 : ∀ c, c < 8 → U 72 (56 + c) = V 72 (56 + c)) (hs : ∀ c, c < 8 → U 2 c = V 2 c) (h74 : ∀ c, c < 8 → U 74 (7 + c) = V 74 (7 + c)) (h3 : ∀ c, c < 8 → U 3 c = V 3 c) (hh : ∀ p c, p < 7 → c < 8 → U (20 + p) c = V (20 + p) c) (h6 : ∀ b, b < 20 → U 6 b = V 6 b) (sg : ∀ pa, pa < n → q_sg V U (1 + pa)) : zR2 U B2 := fun c hc => by
  have e : q_cbs U c 20 = q_cbs V c 20 := q_cbs_congr (q_chs2_congr (hs c hc) 7 (fun p hp => hh p c hp hc)) 20 (fun b hb => q_cbelt_sg hn (h6 b hb) (zbelt h7 hb) sg _)
  rw [h72 c hc, hs c hc, h74 c hc, h3 c hc, e]
  obtain ⟨a1, ⟨m, a2, a3⟩, a4⟩ := h c hc
  exact ⟨a1, ⟨m, by omega, a3⟩, a4⟩
theorem zR3_fr {V U : q_V} {g0 : Nat} (h : zR3 V g0) (h18 : U 18 0 = V 18 0) (sg : q_sg V U 0) : zR3 U g0 := ⟨h18.trans h.1, gis_of_sg h.2 sg⟩
theorem zR4_fr {V U : q_V} {n : Nat} {gp : Nat → Nat} (h : zR4 V n gp) (h0 : U 0 6 = V 0 6) (h18 : U 18 1 = V 18 1) (h69 : ∀ pa, pa < n → U 69 (3 * pa) = V 69 (3 * pa)) (sg : ∀ pa, pa < n → q_sg V U (1 + pa)) : zR4 U n gp :=
  ⟨h0.trans h.1, h18.trans h.2.1, h.2.2.1, fun pa hp => ⟨(h69 pa hp).trans (h.2.2.2 pa hp).1, gis_of_sg (h.2.2.2 pa hp).2 (sg pa hp)⟩⟩
theorem zR5_fr {V U : q_V} {n : Nat} (h : zR5 V n) (ha : ∀ pa, pa < n → U 69 (3 * pa + 1) = V 69 (3 * pa + 1)) (hb : ∀ pa, pa < n → U 69 (3 * pa + 2) = V 69 (3 * pa + 2)) (h5 : ∀ pa, pa < n → U 5 pa = V 5 pa) (sg : ∀ pa, pa < n → q_sg V U (1 + pa)) : zR5 U n := fun pa hp => by
  rw [ha pa hp, hb pa hp, h5 pa hp]
  obtain ⟨a1, a2, o, a3, a4⟩ := h pa hp
  exact ⟨a1, a2, o, q_corg_sg (fun q hq => sg q (by omega)) a3, a4⟩
theorem zR6_fr {V U : q_V} {ns : Nat} {gs : Nat → Nat} (h : zR6 V ns gs) (h0 : U 0 13 = V 0 13) (h18 : U 18 2 = V 18 2) (ha : ∀ t, t < ns → U 70 (2 * t) = V 70 (2 * t)) (hb : ∀ t, t < ns → U 70 (2 * t + 1) = V 70 (2 * t + 1)) (h11 : ∀ t, t < ns → U 11 t = V 11 t) (sg : ∀ t, t < ns → q_sg V U (13 + t)) : zR6 U ns gs :=
  ⟨h0.trans h.1, h18.trans h.2.1, h.2.2.1, fun t ht => by
    rw [ha t ht, hb t ht, h11 t ht]
    obtain ⟨a1, a2, a3⟩ := h.2.2.2 t ht
    exact ⟨a1, gis_of_sg a2 (sg t ht), a3⟩⟩
theorem zR7_fr {V U : q_V} {n : Nat} (h : zR7 V n) (h71 : ∀ j, j < 12 → U 71 j = V 71 j) (h6 : ∀ b, b < 20 → U 6 b = V 6 b) (h7 : ∀ b, b < 20 → U 7 b = V 7 b) : zR7 U n :=
  ⟨fun b hb => by rw [h71 _ (by omega), h71 _ (by omega), h6 b (by omega), h7 b (by omega)]; exact h.1 b hb, fun b hb hb2 => (h6 b hb2).trans (h.2.1 b hb hb2), fun b hb => by rw [h7 b hb]; exact h.2.2 b hb⟩
theorem zR8_fr {V U : q_V} (h : zR8 V) (h74 : ∀ p, p < 7 → U 74 p = V 74 p) (h8 : ∀ p, p < 7 → U 8 p = V 8 p) : zR8 U := fun p hp => by rw [h74 p hp, h8 p hp]; exact h p hp
theorem zR9_fr {V U : q_V} (h : zR9 V) (h73 : ∀ j, j < 14 → U 73 j = V 73 j) (h13 : ∀ p, p < 7 → U 13 p = V 13 p) (h14 : ∀ p, p < 7 → U 14 p = V 14 p) : zR9 U := fun p hp => by rw [h73 _ (by omega), h73 _ (by omega), h13 p hp, h14 p hp]; exact h p hp
theorem zR10_fr {G K : q_G} (h : zR10 G) (h19 : ∀ p, p < 7 → K 19 p = G 19 p) (h12 : ∀ p, p < 7 → K 12 p = G 12 p) : zR10 K := fun p hp => by rw [h19 p hp, h12 p hp]; exact h p hp
/-! sums with one place changed -/
theorem q_chs2_one {V U : q_V} {c a : Nat} {x : Int32} (h0 : U 2 c = V 2 c) (ho : ∀ p, p ≠ a → p < 7 → U (20 + p) c = V (20 + p) c) (h1 : U (20 + a) c = V (20 + a) c + x) : ∀ k, k ≤ 7 → a < k → q_chs2 U c k = q_chs2 V c k + x
  | 0, _, h => absurd h (Nat.not_lt_zero a)
  | k + 1, hk, h => by
    show q_chs2 U c k + U (20 + k) c = q_chs2 V c k + V (20 + k) c + x
    by_cases e : a = k
    · subst e
      rw [q_chs2_congr h0 a (fun p hp => ho p (by omega) (by omega)), h1, Int32.add_assoc]
    · rw [q_chs2_one h0 ho h1 k (by omega) (by omega), ho k (by omega) (by omega)]
      ac_rfl
theorem q_cbs_one {V U : q_V} {c kf : Nat} {x y : Int32} (h0 : q_chs2 U c 7 = q_chs2 V c 7 + x) (ho : ∀ b, b ≠ kf → b < 20 → q_cbelt U b (nI c) = q_cbelt V b (nI c)) (h1 : q_cbelt U kf (nI c) = q_cbelt V kf (nI c) + y) : ∀ k, k ≤ 20 → q_cbs U c k = q_cbs V c k + (x + (if kf < k then y else 0))
  | 0, _ => by
    rw [if_neg (Nat.not_lt_zero kf), Int32.add_zero]
    exact h0
  | k + 1, hk => by
    show q_cbs U c k + q_cbelt U k (nI c) = q_cbs V c k + q_cbelt V k (nI c) + (x + _)
    rw [q_cbs_one h0 ho h1 k (by omega)]
    by_cases e : kf = k
    · subst e
      rw [if_neg (Nat.lt_irrefl kf), if_pos (Nat.lt_succ_self kf), h1, Int32.add_zero]
      ac_rfl
    · rw [ho k (fun z => e z.symm) (by omega)]
      by_cases q : kf < k
      · rw [if_pos q, if_pos (by omega)]
        ac_rfl
      · rw [if_neg q, if_neg (by omega), Int32.add_zero]
        ac_rfl
theorem q_cbs_0 {V U : q_V} {c : Nat} {x : Int32} (h0 : q_chs2 U c 7 = q_chs2 V c 7 + x) (ho : ∀ b, b < 20 → q_cbelt U b (nI c) = q_cbelt V b (nI c)) : ∀ k, k ≤ 20 → q_cbs U c k = q_cbs V c k + x
  | 0, _ => h0
  | k + 1, hk => by
    show q_cbs U c k + q_cbelt U k (nI c) = q_cbs V c k + q_cbelt V k (nI c) + x
    rw [q_cbs_0 h0 ho k (by omega), ho k (by omega)]
    ac_rfl
/-- the law's locals at the end of a turn -/
abbrev z_lv (σ : q_E) (b t : Nat) : List (Nat × Value) := [(10, .int (nI t)), (0, .ref b), (1, .ref (σ.2.1 0)), (2, .ref (σ.2.1 69)), (3, .ref (σ.2.1 70)), (4, .ref (σ.2.1 71)), (5, .ref (σ.2.1 72)), (6, .ref (σ.2.1 73)), (7, .ref (σ.2.1 74)), (8, .ref (σ.2.1 19)), (9, .ref (σ.2.1 18))]
/-- how a turn goes on -/
def z_K (σ : q_E) (p : Program) (l : Launch) (e : Env) (s : State) (m : MethodId) (b : Nat) (below : List Frame) (meth : Method) (c : Code) (Q : State → Prop) (cells slots t : Nat) : Prop :=
  ∀ (V9 : q_V) (G9 : q_G) (n ns g0 : Nat) (gp gs : Nat → Nat) (ce se : Nat), zRel V9 G9 (30 * (t + 1)) n ns g0 gp gs → ce ≤ cells + 960 → se ≤ slots + 5760 → q_W σ p l e room_1 s m #[Value.ref b] below meth c Q 21 ce se V9 G9 (z_lv σ b t) 1620 []
