abbrev q_E : Type := va_G × (Nat → Nat) × (ClassId × ClassId × ClassId × ClassId × ClassId)
abbrev q_V : Type := Nat → Nat → Int32
abbrev q_G : Type := Nat → Nat → Int64
/-- what kind of thing each number stands for: 1 int[], 2 long[], 3 boolean[], 4 Grid[], 5 int[][], 10 the system, 11 its barter, 12 a grid -/
def q_kds : List Nat := [10, 5, 1, 1, 4, 1, 1, 1, 1, 11, 4, 1, 2, 1, 1, 3, 1, 1, 1, 2, 1, 1, 1, 1, 1, 1, 1, 12, 12, 12, 12, 12, 12, 12, 12, 12, 12, 12, 12, 12, 12, 12, 12, 12, 12, 12, 12, 12, 1, 1, 1, 1, 1, 1, 1, 1, 1, 1, 1, 1, 1, 1, 1, 1, 1, 1, 1, 1, 1, 1, 1, 1, 1, 1, 1]
def q_lens : List Nat := [0, 7, 8, 8, 12, 12, 20, 20, 7, 0, 8, 8, 7, 7, 7, 7, 7, 7, 3, 7, 8, 8, 8, 8, 8, 8, 8, 0, 0, 0, 0, 0, 0, 0, 0, 0, 0, 0, 0, 0, 0, 0, 0, 0, 0, 0, 0, 0, 48, 48, 48, 48, 48, 48, 48, 48, 48, 48, 48, 48, 48, 48, 48, 48, 48, 48, 48, 48, 48, 18, 8, 12, 64, 14, 15]
def q_kd (k : Nat) : Nat := q_kds.getD k 0
def q_len (k : Nat) : Nat := q_lens.getD k 0
def q_en (σ : q_E) (k : Nat) (v : Nat → Int32) (w : Nat → Int64) : va_E :=
  if q_kd k = 1 then .inl (σ.2.2.1, q_len k, .inl v)
  else if q_kd k = 2 then .inl (σ.2.2.2.1, q_len k, .inr (.inl w))
  else if q_kd k = 3 then .inl (σ.2.2.2.2.1, q_len k, .inl v)
  else if q_kd k = 4 then .inl (σ.2.2.2.2.2.1, q_len k, .inr (.inr (.inr (.inr (fun i => some (σ.2.1 ((if k = 4 then 28 else 40) + i)))))))
  else if q_kd k = 5 then .inl (σ.2.2.2.2.2.2, q_len k, .inr (.inr (.inr (.inr (fun i => some (σ.2.1 (20 + i)))))))
  else if q_kd k = 12 then .inr (1, [.ref (σ.2.1 (k + 21)), .int (v 1), .int (v 2)])
  else if q_kd k = 10 then .inr (2, [.ref (σ.2.1 1), .ref (σ.2.1 2), .ref (σ.2.1 3), .ref (σ.2.1 27), .ref (σ.2.1 4), .ref (σ.2.1 5), .int (v 6), .ref (σ.2.1 6), .ref (σ.2.1 7), .ref (σ.2.1 8), .ref (σ.2.1 9), .ref (σ.2.1 10), .ref (σ.2.1 11), .int (v 13), .ref (σ.2.1 12)])
  else .inr (0, [.ref (σ.2.1 13), .ref (σ.2.1 14), .ref (σ.2.1 15), .ref (σ.2.1 16), .ref (σ.2.1 17), .int (v 5)])
theorem q_en1 {σ : q_E} {k : Nat} {v : Nat → Int32} {w : Nat → Int64} (h : q_kd k = 1) : q_en σ k v w = .inl (σ.2.2.1, q_len k, .inl v) := by unfold q_en; rw [if_pos h]
theorem q_en2 {σ : q_E} {k : Nat} {v : Nat → Int32} {w : Nat → Int64} (h : q_kd k = 2) : q_en σ k v w = .inl (σ.2.2.2.1, q_len k, .inr (.inl w)) := by unfold q_en; rw [if_neg (by omega), if_pos h]
theorem q_en3 {σ : q_E} {k : Nat} {v : Nat → Int32} {w : Nat → Int64} (h : q_kd k = 3) : q_en σ k v w = .inl (σ.2.2.2.2.1, q_len k, .inl v) := by unfold q_en; rw [if_neg (by omega), if_neg (by omega), if_pos h]
theorem q_en4 {σ : q_E} {k : Nat} {v : Nat → Int32} {w : Nat → Int64} (h : q_kd k = 4) : q_en σ k v w = .inl (σ.2.2.2.2.2.1, q_len k, .inr (.inr (.inr (.inr (fun i => some (σ.2.1 ((if k = 4 then 28 else 40) + i))))))) := by unfold q_en; rw [if_neg (by omega), if_neg (by omega), if_neg (by omega), if_pos h]
theorem q_en5 {σ : q_E} {k : Nat} {v : Nat → Int32} {w : Nat → Int64} (h : q_kd k = 5) : q_en σ k v w = .inl (σ.2.2.2.2.2.2, q_len k, .inr (.inr (.inr (.inr (fun i => some (σ.2.1 (20 + i))))))) := by unfold q_en; rw [if_neg (by omega), if_neg (by omega), if_neg (by omega), if_neg (by omega), if_pos h]
theorem q_en12 {σ : q_E} {k : Nat} {v : Nat → Int32} {w : Nat → Int64} (h : q_kd k = 12) : q_en σ k v w = .inr (1, [.ref (σ.2.1 (k + 21)), .int (v 1), .int (v 2)]) := by unfold q_en; rw [if_neg (by omega), if_neg (by omega), if_neg (by omega), if_neg (by omega), if_neg (by omega), if_pos h]
theorem q_enBP {σ : q_E} {v : Nat → Int32} {w : Nat → Int64} : q_en σ 0 v w = .inr (2, [.ref (σ.2.1 1), .ref (σ.2.1 2), .ref (σ.2.1 3), .ref (σ.2.1 27), .ref (σ.2.1 4), .ref (σ.2.1 5), .int (v 6), .ref (σ.2.1 6), .ref (σ.2.1 7), .ref (σ.2.1 8), .ref (σ.2.1 9), .ref (σ.2.1 10), .ref (σ.2.1 11), .int (v 13), .ref (σ.2.1 12)]) := rfl
theorem q_enBA {σ : q_E} {v : Nat → Int32} {w : Nat → Int64} : q_en σ 9 v w = .inr (0, [.ref (σ.2.1 13), .ref (σ.2.1 14), .ref (σ.2.1 15), .ref (σ.2.1 16), .ref (σ.2.1 17), .int (v 5)]) := rfl
def q_ws (σ : q_E) (V : q_V) (G : q_G) : va_W := (List.range 75).map (fun k => (σ.2.1 k, q_en σ k (V k) (G k)))
theorem q_ws_at {σ : q_E} {V : q_V} {G : q_G} {k : Nat} (hk : k < 75) : (q_ws σ V G)[k]? = some (σ.2.1 k, q_en σ k (V k) (G k)) := by simp [q_ws, hk]
theorem q_ws_in {σ : q_E} {V : q_V} {G : q_G} {k : Nat} {q : Nat × va_E} (h : (q_ws σ V G)[k]? = some q) : k < 75 ∧ q = (σ.2.1 k, q_en σ k (V k) (G k)) := by
  have hk : k < 75 := by
    have h1 := (List.getElem?_eq_some_iff.mp h).1
    simpa [q_ws] using h1
  rw [q_ws_at hk] at h
  exact ⟨hk, (Option.some.inj h).symm⟩
theorem q_ws_set {σ : q_E} {V V' : q_V} {G G' : q_G} {k : Nat} {e : va_E} (he : q_en σ k (V' k) (G' k) = e) (ho : ∀ j, j ≠ k → V' j = V j ∧ G' j = G j) : (q_ws σ V G).set k (σ.2.1 k, e) = q_ws σ V' G' := by
  apply List.ext_getElem?
  intro j
  by_cases hj : j = k
  · subst hj
    by_cases hl : j < 75
    · rw [List.getElem?_set_self (by simp [q_ws, hl]), q_ws_at hl, he]
    · have h1 : (q_ws σ V' G').length ≤ j := by simp [q_ws]; omega
      have h2 : ((q_ws σ V G).set j (σ.2.1 j, e)).length ≤ j := by simp [q_ws]; omega
      rw [List.getElem?_eq_none h1, List.getElem?_eq_none h2]
  · rw [List.getElem?_set_ne (Ne.symm hj)]
    by_cases hl : j < 75
    · rw [q_ws_at hl, q_ws_at hl, (ho j hj).1, (ho j hj).2]
    · have h1 : (q_ws σ V' G').length ≤ j := by simp [q_ws]; omega
      have h2 : (q_ws σ V G).length ≤ j := by simp [q_ws]; omega
      rw [List.getElem?_eq_none h1, List.getElem?_eq_none h2]
def q_A (σ : q_E) (sz : Nat) : Nat → Prop := fun q => (∃ k, k < 75 ∧ q = σ.2.1 k) ∨ sz ≤ q
def q_inj (σ : q_E) : Prop := ∀ i j, i < 75 → j < 75 → σ.2.1 i = σ.2.1 j → i = j
theorem q_D {σ : q_E} {V : q_V} {G : q_G} {sz : Nat} (h : q_inj σ) : va_D (q_A σ sz) (q_ws σ V G) := by
  refine ⟨fun i j x y hi hj hxy => ?_, fun k q hk => ?_⟩
  · obtain ⟨h1, rfl⟩ := q_ws_in hi
    obtain ⟨h2, rfl⟩ := q_ws_in hj
    exact h i j h1 h2 hxy
  · obtain ⟨h1, rfl⟩ := q_ws_in hk
    exact Or.inl ⟨k, h1, rfl⟩
theorem q_A_mono {σ : q_E} {a b q : Nat} (h : a ≤ b) (hq : q_A σ b q) : q_A σ a q := hq.elim Or.inl (fun z => Or.inr (Nat.le_trans h z))
def q_tys (σ : q_E) : List (ClassId × FieldType) := [(σ.2.2.1, .int), (σ.2.2.2.1, .long), (σ.2.2.2.2.1, .boolean), (σ.2.2.2.2.2.1, .object RX1), (σ.2.2.2.2.2.2, .array .int)]
def q_nx : List Cond := [.castable "java/lang/IndexOutOfBoundsException" "java/lang/IndexOutOfBoundsException", .castable "java/lang/IllegalArgumentException" "java/lang/IllegalArgumentException", .castable "java/lang/IllegalStateException" "java/lang/IllegalStateException", .declares (Bundle.initS "java/lang/RuntimeException"), .declares (Bundle.initS "java/lang/Exception"), .declares (Bundle.initS "java/lang/Throwable")]
def q_nc : List (String × String) := [("java/lang/IndexOutOfBoundsException", "java/lang/IllegalArgumentException"), ("java/lang/IndexOutOfBoundsException", "java/lang/IllegalStateException"), ("java/lang/IllegalArgumentException", "java/lang/IndexOutOfBoundsException"), ("java/lang/IllegalArgumentException", "java/lang/IllegalStateException"), ("java/lang/IllegalStateException", "java/lang/IndexOutOfBoundsException"), ("java/lang/IllegalStateException", "java/lang/IllegalArgumentException")]
def q_nw : List Cond := [.fieldLinkNest RX2 180 RX1 "columns" "I" RX2, .fieldLinkNest RX2 183 RX1 "rows" "I" RX2, .fieldLinkNest RX2 174 RX0 "best" "[I" RX2, .fieldLinkNest RX2 165 RX0 "bestLength" "I" RX2, .methodLinkNest RX2 161 yX0_findBest RX2, .methodLinkNest RX2 168 yX0_longestByOrders RX2, .methodLinkNest RX2 177 yX0_exchange RX2, .methodLinkNest RX2 92 yX1_cellsOf RX2, .methodLinkNest RX2 96 yX1_begin RX2, .methodLinkNest RX2 100 yX1_size RX2, .methodLinkNest RX2 104 yX1_hasCell RX2, .methodLinkNest RX2 113 yX1_colourAt RX2, .methodLinkNest RX2 117 yX1_paint RX2, .methodLinkNest RX2 126 yX1_copyFrom RX2, .methodLinkNest RX2 133 yX1_hasImage RX2, .methodLinkNest RX2 155 yX0_hasWish RX2, .methodLinkNest RX2 158 yX0_setWish RX2, .methodLinkNest RX2 195 yX1_placesOf RX2, .castable "java/lang/IndexOutOfBoundsException" "java/lang/IndexOutOfBoundsException", .castable "java/lang/IllegalArgumentException" "java/lang/IllegalArgumentException", .castable "java/lang/IllegalStateException" "java/lang/IllegalStateException", .declares (Bundle.initS "java/lang/RuntimeException"), .declares (Bundle.initS "java/lang/Exception"), .declares (Bundle.initS "java/lang/Throwable")]
def q_nq (w : Cond) : Prop := (∃ a i b n d h, w = .fieldLinkNest a i b n d h) ∨ (∃ a i x h, w = .methodLinkNest a i x h) ∨ (∃ a b, w = .castable a b) ∨ ∃ x, w = .declares x
theorem q_nw_form : ∀ w ∈ q_nw, q_nq w := by
  intro w hw
  simp only [q_nw, List.mem_cons, List.not_mem_nil, or_false] at hw
  rcases hw with rfl | rfl | rfl | rfl | rfl | rfl | rfl | rfl | rfl | rfl | rfl | rfl | rfl | rfl | rfl | rfl | rfl | rfl | rfl | rfl | rfl | rfl | rfl | rfl <;> first | exact Or.inl ⟨_, _, _, _, _, _, rfl⟩ | exact Or.inr (Or.inl ⟨_, _, _, _, rfl⟩) | exact Or.inr (Or.inr (Or.inl ⟨_, _, rfl⟩)) | exact Or.inr (Or.inr (Or.inr ⟨_, rfl⟩))
theorem q_nq_same {w : Cond} (hw : q_nq w) {u U : State} (h : u.vm = U.vm) (hZ : va_Nw w u) : va_Nw w U := by
  rcases hw with ⟨_, _, _, _, _, _, rfl⟩ | ⟨_, _, _, _, rfl⟩ | ⟨_, _, rfl⟩ | ⟨_, rfl⟩ <;> exact va_Nw.same rfl h hZ
theorem q_nq_warm {w : Cond} (hw : q_nq w) {s U : State} (h : s.WarmedH U.vm) (hZ : va_Nw w s) : va_Nw w U := by
  rcases hw with ⟨_, _, _, _, _, _, rfl⟩ | ⟨_, _, _, _, rfl⟩ | ⟨_, _, rfl⟩ | ⟨_, rfl⟩
  · exact va_Nw.warmF h hZ
  · exact va_Nw.warmM h hZ
  · exact va_Nw.warmC h hZ
  · exact va_Nw.warmD h hZ
theorem q_nx_tab : ∀ w ∈ q_nx, w.onTables = true := by decide +kernel
theorem q_nx_nw : ∀ w ∈ q_nx, w ∈ q_nw := by decide +kernel
def q_st : List (Nat × String) := [(110, "no such cell"), (124, "no room for a pattern"), (143, "no room for a belt"), (145, "too few beads in the hand"), (152, "the same colour for itself"), (172, "no such place in the best chain"), (186, "the draft is too large for a sign"), (191, "no room for a sign"), (193, "no such sign"), (202, "no such rank"), (207, "no such person"), (209, "no such colour"), (211, "no such pattern"), (213, "no such belt"), (215, "out of its range"), (81, "too many beads in the hand"), (86, "too few beads")]
/-- what holds of the machine's tables and of the two statics, all the time -/
def q_K (σ : q_E) (U : State) : Prop := va_K σ.1 vwCl (q_tys σ) U ∧ q_inj σ ∧ (∀ w ∈ q_nw, va_Nw w U) ∧ (∀ z ∈ q_st, ∃ sa, vk_R RX2 z.1 z.2 sa U) ∧ vx_Zq Bundle.tN "UNASSIGNED_STACK" Bundle.steD (q_A σ U.heap.size) U U.heap ∧ vx_Zq Bundle.tN "SUPPRESSED_SENTINEL" Bundle.listD (q_A σ U.heap.size) U U.heap ∧ ∀ z ∈ q_nc, va_Nc z.1 z.2 U
theorem q_K_calling {σ : q_E} {U : State} {g : JFrame} {mk : MethodId} {a : Array Value} (h : q_K σ U) : q_K σ (U.calling g mk a) := by
  obtain ⟨h1, h2, h3, h4, h5, h6, h7⟩ := h
  refine ⟨va_K.moved (u := U) (U := U.calling g mk a) (Vm.Alike.refl U.vm) h1, h2, fun w hw => q_nq_same (q_nw_form w hw) (u := U) rfl (h3 w hw), fun z hz => ?_, vx_Zq.moved (u := U) (U := U.calling g mk a) (Vm.Alike.refl U.vm) h5, vx_Zq.moved (u := U) (U := U.calling g mk a) (Vm.Alike.refl U.vm) h6, fun z hz => va_Nc.moved (u := U) (U := U.calling g mk a) (Vm.Alike.refl U.vm) (h7 z hz)⟩
  obtain ⟨sa, hs⟩ := h4 z hz
  exact ⟨sa, vk_R.same (u := U) rfl hs⟩
theorem q_K_run {σ : q_E} {s U : State} {H : Heap} {locs : List Loc} (h : q_K σ s) (hS : va_S (q_A σ s.heap.size) s.heap H locs) (hU : U.heap = H) (hW : s.WarmedH U.vm) : q_K σ U := by
  obtain ⟨h1, h2, h3, h4, h5, h6, h7⟩ := h
  subst hU
  refine ⟨va_K.moved hW.alike h1, h2, fun w hw => q_nq_warm (q_nw_form w hw) hW (h3 w hw), fun z hz => ?_, ?_, ?_, fun z hz => va_Nc.moved hW.alike (h7 z hz)⟩
  · obtain ⟨sa, hs⟩ := h4 z hz
    exact ⟨sa, vk_R.warm hW hs⟩
  · exact ((vx_Zq.moved hW.alike h5).kept (fun a ha hn => hS.2.1 a ha hn)).narrow (fun q hq => q_A_mono hS.1 hq)
  · exact ((vx_Zq.moved hW.alike h6).kept (fun a ha hn => hS.2.1 a ha hn)).narrow (fun q hq => q_A_mono hS.1 hq)
/-- a method's context -/
def q_C (σ : q_E) (p : Program) (s : State) (m : MethodId) (args : Array Value) (c : Code) (cc : ByteArray) (nL : Nat) (own : String) (Ts : List Cond) : Prop :=
  p.tables.exec = Jvm.exec ∧ c.code = cc ∧ c.maxLocals = nL ∧ s.vm.findClass own = some m.cls ∧ (∀ w ∈ Ts, w.before args s = true) ∧ q_K σ s
/-- the machine at pc, with the memory V, G, the locals lv and the operands st, comes to Q -/
def q_W (σ : q_E) (p : Program) (l : Launch) (e : Env) (R : Room) (s : State) (m : MethodId) (args : Array Value) (below : List Frame) (meth : Method) (c : Code) (Q : State → Prop) (nL cells slots : Nat) (V : q_V) (G : q_G) (lv : List (Nat × Value)) (pc : Nat) (st : List Value) : Prop :=
  ∀ (H : Heap) (locs : List Loc) (ls : Array Slot), va_P σ.1 vwCl (q_ws σ V G) H → va_S (q_A σ s.heap.size) s.heap H locs → lv_has ls nL lv → W p l e R s m args below meth c H locs cells slots Q (F0 m pc ls st)
/-- .. with the cell q9, of the class E, thrown over it -/
def q_X (σ : q_E) (p : Program) (l : Launch) (e : Env) (R : Room) (s : State) (m : MethodId) (args : Array Value) (below : List Frame) (meth : Method) (c : Code) (Q : State → Prop) (nL cells slots : Nat) (E : String) (V : q_V) (G : q_G) (lv : List (Nat × Value)) (pc : Nat) (st : List Value) : Prop :=
  ∀ (H : Heap) (locs : List Loc) (ls : Array Slot) (ce : Cell) (q9 : Addr), va_P σ.1 vwCl (q_ws σ V G) H → va_S (q_A σ s.heap.size) s.heap H locs → lv_has ls nL lv → H[q9]? = some ce → ce.vm = .none → s.vm.findClass E = some ce.cls → vx_W p l e R s m args below meth c H locs cells slots Q (F0 m pc ls st) q9
def q_Pc (σ : q_E) (sz : Nat) (V : q_V) (G : q_G) : State → Prop := fun U => U.heap.size = sz ∧ va_P σ.1 vwCl (q_ws σ V G) U.heap ∧ q_K σ U
theorem q_blind {σ : q_E} {sz : Nat} {V : q_V} {G : q_G} {As : List Value} : FrameBlind (va_Pc As (q_Pc σ sz V G)) := fun a U g mk h => by
  obtain ⟨h0, h1, h2, h3⟩ := h
  exact ⟨h0, h1, h2, q_K_calling h3⟩
def q_B (σ : q_E) : q_V × q_G → State → Prop := fun u t => va_P σ.1 vwCl (q_ws σ u.1 u.2) t.heap
/-- contracts: a method that returns -/
def q_Mi (l : Launch) (y : MethodName) (ws : List Cond) (rm : Room) (σ : q_E) (As : List Value) (V : q_V) (G : q_G) (post : Int32 → q_V → q_G → Prop) (mc ms : Nat) : Prop := ∀ sz : Nat, Met l y ws rm (va_Pc As (q_Pc σ sz V G)) (va_Qi (fun r (u : q_V × q_G) => post r u.1 u.2) (q_B σ) (q_A σ sz)) mc ms (q_A σ sz)
def q_Ml (l : Launch) (y : MethodName) (ws : List Cond) (rm : Room) (σ : q_E) (As : List Value) (V : q_V) (G : q_G) (post : Int64 → q_V → q_G → Prop) (mc ms : Nat) : Prop := ∀ sz : Nat, Met l y ws rm (va_Pc As (q_Pc σ sz V G)) (va_Ql (fun r (u : q_V × q_G) => post r u.1 u.2) (q_B σ) (q_A σ sz)) mc ms (q_A σ sz)
def q_Mv (l : Launch) (y : MethodName) (ws : List Cond) (rm : Room) (σ : q_E) (As : List Value) (V : q_V) (G : q_G) (post : q_V → q_G → Prop) (mc ms : Nat) : Prop := ∀ sz : Nat, Met l y ws rm (va_Pc As (q_Pc σ sz V G)) (va_Qv (fun (u : q_V × q_G) => post u.1 u.2) (q_B σ) (q_A σ sz)) mc ms (q_A σ sz)
/-- .. that returns or throws -/
def q_BX (σ : q_E) (px : String → q_V → q_G → Prop) : String → q_V × q_G → State → Prop := fun E u t => px E u.1 u.2 ∧ va_P σ.1 vwCl (q_ws σ u.1 u.2) t.heap
def q_Xi (l : Launch) (y : MethodName) (ws : List Cond) (rm : Room) (σ : q_E) (As : List Value) (V : q_V) (G : q_G) (post : Int32 → q_V → q_G → Prop) (px : String → q_V → q_G → Prop) (mc ms : Nat) : Prop := ∀ sz : Nat, vx_Met l y ws rm (va_Pc As (q_Pc σ sz V G)) (va_Qi (fun r (u : q_V × q_G) => post r u.1 u.2) (q_B σ) (q_A σ sz)) (vx_X (fun _ => True) (q_BX σ px) (q_A σ sz)) mc ms (q_A σ sz)
def q_Xl (l : Launch) (y : MethodName) (ws : List Cond) (rm : Room) (σ : q_E) (As : List Value) (V : q_V) (G : q_G) (post : Int64 → q_V → q_G → Prop) (px : String → q_V → q_G → Prop) (mc ms : Nat) : Prop := ∀ sz : Nat, vx_Met l y ws rm (va_Pc As (q_Pc σ sz V G)) (va_Ql (fun r (u : q_V × q_G) => post r u.1 u.2) (q_B σ) (q_A σ sz)) (vx_X (fun _ => True) (q_BX σ px) (q_A σ sz)) mc ms (q_A σ sz)
def q_Xv (l : Launch) (y : MethodName) (ws : List Cond) (rm : Room) (σ : q_E) (As : List Value) (V : q_V) (G : q_G) (post : q_V → q_G → Prop) (px : String → q_V → q_G → Prop) (mc ms : Nat) : Prop := ∀ sz : Nat, vx_Met l y ws rm (va_Pc As (q_Pc σ sz V G)) (va_Qv (fun (u : q_V × q_G) => post u.1 u.2) (q_B σ) (q_A σ sz)) (vx_X (fun _ => True) (q_BX σ px) (q_A σ sz)) mc ms (q_A σ sz)
/-- ends -/
def q_Ri (σ : q_E) (p : Program) (l : Launch) (e : Env) (R : Room) (s : State) (m : MethodId) (args : Array Value) (below : List Frame) (meth : Method) (c : Code) (Q : State → Prop) (nL : Nat) (cc : ByteArray) (ty : FieldType) (post : Int32 → q_V → q_G → Prop) (mc ms : Nat) : Prop :=
  ∀ (cells slots : Nat) (V' : q_V) (G' : q_G) (lv : List (Nat × Value)) (pc : Nat) (r : Int32), post r V' G' → narrow ty (.int r) = .int r → cells ≤ mc → slots ≤ ms → decode cc pc = .ok (.ireturn, 1) → q_W σ p l e R s m args below meth c Q nL cells slots V' G' lv pc [.int r]
def q_Rl (σ : q_E) (p : Program) (l : Launch) (e : Env) (R : Room) (s : State) (m : MethodId) (args : Array Value) (below : List Frame) (meth : Method) (c : Code) (Q : State → Prop) (nL : Nat) (cc : ByteArray) (post : Int64 → q_V → q_G → Prop) (mc ms : Nat) : Prop :=
  ∀ (cells slots : Nat) (V' : q_V) (G' : q_G) (lv : List (Nat × Value)) (pc : Nat) (r : Int64), post r V' G' → cells ≤ mc → slots ≤ ms → decode cc pc = .ok (.lreturn, 1) → q_W σ p l e R s m args below meth c Q nL cells slots V' G' lv pc [.long r]
def q_Rv (σ : q_E) (p : Program) (l : Launch) (e : Env) (R : Room) (s : State) (m : MethodId) (args : Array Value) (below : List Frame) (meth : Method) (c : Code) (Q : State → Prop) (nL : Nat) (cc : ByteArray) (post : q_V → q_G → Prop) (mc ms : Nat) : Prop :=
  ∀ (cells slots : Nat) (V' : q_V) (G' : q_G) (lv : List (Nat × Value)) (pc : Nat), post V' G' → cells ≤ mc → slots ≤ ms → decode cc pc = .ok (.return_, 1) → q_W σ p l e R s m args below meth c Q nL cells slots V' G' lv pc []
/-- a throw that leaves the method -/
def q_O (σ : q_E) (p : Program) (l : Launch) (e : Env) (R : Room) (s : State) (m : MethodId) (args : Array Value) (below : List Frame) (meth : Method) (c : Code) (Q : State → Prop) (nL : Nat) (px : String → q_V → q_G → Prop) (mc ms : Nat) : Prop :=
  ∀ (cells slots : Nat) (E : String) (V' : q_V) (G' : q_G) (lv : List (Nat × Value)) (pc : Nat) (st : List Value), px E V' G' → cells ≤ mc → slots ≤ ms → q_X σ p l e R s m args below meth c Q nL cells slots E V' G' lv pc st
/-- what a body that may throw knows of its table and of its end -/
def q_T (σ : q_E) (s : State) (args : Array Value) (below : List Frame) (meth : Method) (c : Code) (Q : State → Prop) (px : String → q_V → q_G → Prop) (mc ms : Nat) : Prop := (∀ x ∈ c.exceptionTable.toList, False) ∧ meth.locks = false ∧ ∃ post : Array Value → State → Outcome → State → Prop, Q = vx_MQ below post (vx_X (fun _ => True) (q_BX σ px) (q_A σ s.heap.size)) args s mc ms (q_A σ s.heap.size)
theorem q_Mi_of {l : Launch} {y : MethodName} {ws ws' : List Cond} {rm : Room} {σ : q_E} {As : List Value} {V : q_V} {G : q_G} {mc ms : Nat} {cc : ByteArray} {maxL : Nat} {lv : List (Nat × Value)} {ty : FieldType} {post : Int32 → q_V → q_G → Prop} (hy : plainName y.cls = true) (hw : ws = Cond.code y cc maxL (some ty) :: ws') (hlen : (lg_sl As).length ≤ maxL) (hlv : lv_args 0 As = lv) (body : ∀ (p : Program) (e : Env) (s : State) (m : MethodId) (args : Array Value) (below : List Frame) (meth : Method) (c : Code) (Q : State → Prop), q_C σ p s m args c cc maxL y.cls ws → q_Ri σ p l e rm s m args below meth c Q maxL cc ty post mc ms → q_W σ p l e rm s m args below meth c Q maxL 0 0 V G lv 0 []) : q_Mi l y ws rm σ As V G post mc ms := by
  intro sz
  refine Met.ofW (cc := cc) (maxL := maxL) (ret := some ty) hy hw ?_
  intro p e s m args below meth c s₁ B hml hv
  obtain ⟨rfl, hsz, hP, hK⟩ := hv
  have hl := lv_entry As (n := maxL) hlen
  rw [lg_entry_eq]
  subst hsz
  rw [hlv] at hl
  refine body p e s m _ below meth c _ ⟨B.exec, B.bytes, hml, findClass_of_methodNamed B.named, atoms_spec (ws := ws) B.pre, hK⟩ ?_ s.heap [] _ hP va_S.rf hl
  intro cells slots V' G' lv' pc r hr hn hc hs hd H locs ls hP' hS' hl'
  refine W.widen (k := mc) (n := ms) hc hs ?_
  exact W.zret (v := r) B.exec B.bytes B.returns hn (fun t ht hW => ⟨⟨r, (V', G'), rfl, hr, by show va_P _ _ _ t.heap; rw [ht]; exact hP'⟩, hS'.F ht⟩) hS'.2.2 hd B.notSynchronized
theorem q_Ml_of {l : Launch} {y : MethodName} {ws ws' : List Cond} {rm : Room} {σ : q_E} {As : List Value} {V : q_V} {G : q_G} {mc ms : Nat} {cc : ByteArray} {maxL : Nat} {lv : List (Nat × Value)} {post : Int64 → q_V → q_G → Prop} (hy : plainName y.cls = true) (hw : ws = Cond.code y cc maxL (some .long) :: ws') (hlen : (lg_sl As).length ≤ maxL) (hlv : lv_args 0 As = lv) (body : ∀ (p : Program) (e : Env) (s : State) (m : MethodId) (args : Array Value) (below : List Frame) (meth : Method) (c : Code) (Q : State → Prop), q_C σ p s m args c cc maxL y.cls ws → q_Rl σ p l e rm s m args below meth c Q maxL cc post mc ms → q_W σ p l e rm s m args below meth c Q maxL 0 0 V G lv 0 []) : q_Ml l y ws rm σ As V G post mc ms := by
  intro sz
  refine Met.ofW (cc := cc) (maxL := maxL) (ret := some .long) hy hw ?_
  intro p e s m args below meth c s₁ B hml hv
  obtain ⟨rfl, hsz, hP, hK⟩ := hv
  have hl := lv_entry As (n := maxL) hlen
  rw [lg_entry_eq]
  subst hsz
  rw [hlv] at hl
  refine body p e s m _ below meth c _ ⟨B.exec, B.bytes, hml, findClass_of_methodNamed B.named, atoms_spec (ws := ws) B.pre, hK⟩ ?_ s.heap [] _ hP va_S.rf hl
  intro cells slots V' G' lv' pc r hr hc hs hd H locs ls hP' hS' hl'
  refine W.widen (k := mc) (n := ms) hc hs ?_
  exact W.lret (v := r) B.exec B.bytes B.returns (fun t ht hW => ⟨⟨r, (V', G'), rfl, hr, by show va_P _ _ _ t.heap; rw [ht]; exact hP'⟩, hS'.F ht⟩) hS'.2.2 hd B.notSynchronized
theorem q_Mv_of {l : Launch} {y : MethodName} {ws ws' : List Cond} {rm : Room} {σ : q_E} {As : List Value} {V : q_V} {G : q_G} {mc ms : Nat} {cc : ByteArray} {maxL : Nat} {lv : List (Nat × Value)} {post : q_V → q_G → Prop} (hy : plainName y.cls = true) (hw : ws = Cond.code y cc maxL none :: ws') (hlen : (lg_sl As).length ≤ maxL) (hlv : lv_args 0 As = lv) (body : ∀ (p : Program) (e : Env) (s : State) (m : MethodId) (args : Array Value) (below : List Frame) (meth : Method) (c : Code) (Q : State → Prop), q_C σ p s m args c cc maxL y.cls ws → q_Rv σ p l e rm s m args below meth c Q maxL cc post mc ms → q_W σ p l e rm s m args below meth c Q maxL 0 0 V G lv 0 []) : q_Mv l y ws rm σ As V G post mc ms := by
  intro sz
  refine Met.ofW (cc := cc) (maxL := maxL) (ret := none) hy hw ?_
  intro p e s m args below meth c s₁ B hml hv
  obtain ⟨rfl, hsz, hP, hK⟩ := hv
  have hl := lv_entry As (n := maxL) hlen
  rw [lg_entry_eq]
  subst hsz
  rw [hlv] at hl
  refine body p e s m _ below meth c _ ⟨B.exec, B.bytes, hml, findClass_of_methodNamed B.named, atoms_spec (ws := ws) B.pre, hK⟩ ?_ s.heap [] _ hP va_S.rf hl
  intro cells slots V' G' lv' pc hr hc hs hd H locs ls hP' hS' hl'
  refine W.widen (k := mc) (n := ms) hc hs ?_
  exact W.vret B.exec B.bytes B.returns (fun t ht hW => ⟨⟨(V', G'), rfl, hr, by show va_P _ _ _ t.heap; rw [ht]; exact hP'⟩, hS'.F ht⟩) hS'.2.2 hd B.notSynchronized
theorem q_Xi_of {l : Launch} {y : MethodName} {ws ws' : List Cond} {rm : Room} {σ : q_E} {As : List Value} {V : q_V} {G : q_G} {mc ms : Nat} {cc : ByteArray} {maxL : Nat} {lv : List (Nat × Value)} {ty : FieldType} {post : Int32 → q_V → q_G → Prop} {px : String → q_V → q_G → Prop} (hy : plainName y.cls = true) (hw : ws = Cond.code y cc maxL (some ty) :: ws') (hlen : (lg_sl As).length ≤ maxL) (hlv : lv_args 0 As = lv) (body : ∀ (p : Program) (e : Env) (s : State) (m : MethodId) (args : Array Value) (below : List Frame) (meth : Method) (c : Code) (Q : State → Prop), q_C σ p s m args c cc maxL y.cls ws → q_Ri σ p l e rm s m args below meth c Q maxL cc ty post mc ms → q_O σ p l e rm s m args below meth c Q maxL px mc ms → q_T σ s args below meth c Q px mc ms → q_W σ p l e rm s m args below meth c Q maxL 0 0 V G lv 0 []) : q_Xi l y ws rm σ As V G post px mc ms := by
  intro sz
  refine vx_ofW (cc := cc) (maxL := maxL) (ret := some ty) hy hw ?_
  intro p e s m args below meth c s₁ B hml htb hv
  obtain ⟨rfl, hsz, hP, hK⟩ := hv
  have hl := lv_entry As (n := maxL) hlen
  rw [lg_entry_eq]
  subst hsz
  rw [hlv] at hl
  refine body p e s m _ below meth c _ ⟨B.exec, B.bytes, hml, findClass_of_methodNamed B.named, atoms_spec (ws := ws) B.pre, hK⟩ ?_ ?_ ⟨htb, B.notSynchronized, _, rfl⟩ s.heap [] _ hP va_S.rf hl
  · intro cells slots V' G' lv' pc r hr hn hc hs hd H locs ls hP' hS' hl'
    refine vx_ret (W.widen (k := mc) (n := ms) hc hs ?_)
    exact W.zret (v := r) B.exec B.bytes B.returns hn (fun t ht hW => ⟨⟨r, (V', G'), rfl, hr, by show va_P _ _ _ t.heap; rw [ht]; exact hP'⟩, hS'.F ht⟩) hS'.2.2 hd B.notSynchronized
  · intro cells slots E V' G' lv' pc st hx hc hs H locs ls ce q9 hP' hS' hl' h1 h2 h3
    exact vx_out (fun x hx9 => (htb x hx9).elim) B.notSynchronized h1 h2 h3 (fun t ht hW => ⟨(V', G'), trivial, ⟨hx, by show va_P _ _ _ t.heap; rw [ht]; exact hP'⟩, hS'.F ht⟩) hS'.2.2 hc hs
theorem q_Xl_of {l : Launch} {y : MethodName} {ws ws' : List Cond} {rm : Room} {σ : q_E} {As : List Value} {V : q_V} {G : q_G} {mc ms : Nat} {cc : ByteArray} {maxL : Nat} {lv : List (Nat × Value)} {post : Int64 → q_V → q_G → Prop} {px : String → q_V → q_G → Prop} (hy : plainName y.cls = true) (hw : ws = Cond.code y cc maxL (some .long) :: ws') (hlen : (lg_sl As).length ≤ maxL) (hlv : lv_args 0 As = lv) (body : ∀ (p : Program) (e : Env) (s : State) (m : MethodId) (args : Array Value) (below : List Frame) (meth : Method) (c : Code) (Q : State → Prop), q_C σ p s m args c cc maxL y.cls ws → q_Rl σ p l e rm s m args below meth c Q maxL cc post mc ms → q_O σ p l e rm s m args below meth c Q maxL px mc ms → q_T σ s args below meth c Q px mc ms → q_W σ p l e rm s m args below meth c Q maxL 0 0 V G lv 0 []) : q_Xl l y ws rm σ As V G post px mc ms := by
  intro sz
  refine vx_ofW (cc := cc) (maxL := maxL) (ret := some .long) hy hw ?_
  intro p e s m args below meth c s₁ B hml htb hv
  obtain ⟨rfl, hsz, hP, hK⟩ := hv
  have hl := lv_entry As (n := maxL) hlen
  rw [lg_entry_eq]
  subst hsz
  rw [hlv] at hl
  refine body p e s m _ below meth c _ ⟨B.exec, B.bytes, hml, findClass_of_methodNamed B.named, atoms_spec (ws := ws) B.pre, hK⟩ ?_ ?_ ⟨htb, B.notSynchronized, _, rfl⟩ s.heap [] _ hP va_S.rf hl
  · intro cells slots V' G' lv' pc r hr hc hs hd H locs ls hP' hS' hl'
    refine vx_ret (W.widen (k := mc) (n := ms) hc hs ?_)
    exact W.lret (v := r) B.exec B.bytes B.returns (fun t ht hW => ⟨⟨r, (V', G'), rfl, hr, by show va_P _ _ _ t.heap; rw [ht]; exact hP'⟩, hS'.F ht⟩) hS'.2.2 hd B.notSynchronized
  · intro cells slots E V' G' lv' pc st hx hc hs H locs ls ce q9 hP' hS' hl' h1 h2 h3
    exact vx_out (fun x hx9 => (htb x hx9).elim) B.notSynchronized h1 h2 h3 (fun t ht hW => ⟨(V', G'), trivial, ⟨hx, by show va_P _ _ _ t.heap; rw [ht]; exact hP'⟩, hS'.F ht⟩) hS'.2.2 hc hs
theorem q_Xv_of {l : Launch} {y : MethodName} {ws ws' : List Cond} {rm : Room} {σ : q_E} {As : List Value} {V : q_V} {G : q_G} {mc ms : Nat} {cc : ByteArray} {maxL : Nat} {lv : List (Nat × Value)} {post : q_V → q_G → Prop} {px : String → q_V → q_G → Prop} (hy : plainName y.cls = true) (hw : ws = Cond.code y cc maxL none :: ws') (hlen : (lg_sl As).length ≤ maxL) (hlv : lv_args 0 As = lv) (body : ∀ (p : Program) (e : Env) (s : State) (m : MethodId) (args : Array Value) (below : List Frame) (meth : Method) (c : Code) (Q : State → Prop), q_C σ p s m args c cc maxL y.cls ws → q_Rv σ p l e rm s m args below meth c Q maxL cc post mc ms → q_O σ p l e rm s m args below meth c Q maxL px mc ms → q_T σ s args below meth c Q px mc ms → q_W σ p l e rm s m args below meth c Q maxL 0 0 V G lv 0 []) : q_Xv l y ws rm σ As V G post px mc ms := by
  intro sz
  refine vx_ofW (cc := cc) (maxL := maxL) (ret := none) hy hw ?_
  intro p e s m args below meth c s₁ B hml htb hv
  obtain ⟨rfl, hsz, hP, hK⟩ := hv
  have hl := lv_entry As (n := maxL) hlen
  rw [lg_entry_eq]
  subst hsz
  rw [hlv] at hl
  refine body p e s m _ below meth c _ ⟨B.exec, B.bytes, hml, findClass_of_methodNamed B.named, atoms_spec (ws := ws) B.pre, hK⟩ ?_ ?_ ⟨htb, B.notSynchronized, _, rfl⟩ s.heap [] _ hP va_S.rf hl
  · intro cells slots V' G' lv' pc hr hc hs hd H locs ls hP' hS' hl'
    refine vx_ret (W.widen (k := mc) (n := ms) hc hs ?_)
    exact W.vret B.exec B.bytes B.returns (fun t ht hW => ⟨⟨(V', G'), rfl, hr, by show va_P _ _ _ t.heap; rw [ht]; exact hP'⟩, hS'.F ht⟩) hS'.2.2 hd B.notSynchronized
  · intro cells slots E V' G' lv' pc st hx hc hs H locs ls ce q9 hP' hS' hl' h1 h2 h3
    exact vx_out (fun x hx9 => (htb x hx9).elim) B.notSynchronized h1 h2 h3 (fun t ht hW => ⟨(V', G'), trivial, ⟨hx, by show va_P _ _ _ t.heap; rw [ht]; exact hP'⟩, hS'.F ht⟩) hS'.2.2 hc hs
