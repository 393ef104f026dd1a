/-! THE CLAIM OUT OF ONE WALK OF THE LAW'S BODY. Your part is whole_start (and what it stands on); all else here is the same for every law, but numbers. -/
def R_law : String := "BeadParleyLaw"
def lw_P (b : Addr) (xs : List Int32) (args : Array Value) (s : State) : Prop := args = #[.ref b] ∧ s.IntsAt b xs ∧ xs.length ≤ 2048 ∧ (Jvm.Cond.and given_1 narrow_1).before args s = true
def lw_Q (_ : Array Value) (s : State) (o : Outcome) (t : State) : Prop := o = .returned (some (.int 1)) ∧ Framed s o t [] 601024 7293034
def lw_Z (below : List Frame) (a : Array Value) (s : State) : State → Prop := fun t => ∃ o, t.status = .running ∧ Ended t below o ∧ lw_Q a s o t
/-- the law's own end, with 1 on the stack, nothing written that was there before, its room as the claim has it -/
theorem lw_ret {p : Program} {l : Launch} {e : Env} {s : State} {m : MethodId} {below : List Frame} {meth : Method} {c : Code} {b : Nat} (hx : p.tables.exec = Jvm.exec) (hb : c.code = code) (hr : meth.sig.returnType = ret) (hlocks : meth.locks = false) {pc : Nat} {H : Heap} {ls : Array Slot} (hdg : decode code pc = .ok (.ireturn, 1)) : W p l e room_1 s m #[Value.ref b] below meth c H [] 601024 7293034 (lw_Z below #[Value.ref b] s) (F0 m pc ls [.int 1]) := by
  intro T hT X
  obtain ⟨fs, hret, hrun, hended, hW, hframe⟩ := X.leave (v := some (.int 1)) (hlocks := hlocks) (fun h => by rw [hr] at h; cases h)
  have hmeth' : T.vm.method? m = some meth := X.method'
  refine ⟨T.setFrames fs, ?_, .returned (some (.int 1)), hrun, hended, rfl, ⟨_, rfl⟩, hW, hframe⟩
  jvm_step X.here [X.here.top, hx, hb, hdg, hmeth', hr, ret, narrow_b1]
  (try refine ⟨rfl, ?_⟩); (try refine ⟨rfl, ?_⟩)
  first | (intro acts; rw [hret _ acts rfl rfl rfl]) | rw [hret _ _ rfl rfl rfl]
  exact Steps.refl _
/-- what holds at the law's entry: the machine, the code, the tables' words (any of lw_tbl by 'hts w (by decide +kernel)'), the script of L ints xs at the cell b, what the Statement gives of the start (any of its parts by flat_of_before) -/
def lw_At (p : Program) (s : State) (m : MethodId) (meth : Method) (c : Code) (b L : Nat) (xs : Nat → Int32) : Prop :=
  p.tables.exec = Jvm.exec ∧ c.code = code ∧ meth.sig.returnType = ret ∧ c.maxLocals = 8 ∧ s.vm.findClass R_law = some m.cls ∧ (∀ w ∈ lw_tbl, w.before #[Value.ref b] s = true) ∧ va_X b L xs s s.heap ∧ b < s.heap.size ∧ meth.locks = false ∧ (Jvm.Cond.and given_1 narrow_1).before #[Value.ref b] s = true
section LAWW
variable {σ : q_E} {p : Program} {l : Launch} {e : Env} {R : Room} {s : State} {m : MethodId} {args : Array Value} {below : List Frame} {meth : Method} {c : Code} {Q : State → Prop} {nL cells slots : Nat} {V : q_V} {G : q_G} {lv : List (Nat × Value)} {pc : Nat} {cc : ByteArray} {own : String} {Ts : List Cond} {st : List Value} {b L : Nat} {xs : Nat → Int32}
/-- the script: outside of the memory, short -/
def w_X (σ : q_E) (s : State) (b L : Nat) (xs : Nat → Int32) : Prop := va_X b L xs s s.heap ∧ b < s.heap.size ∧ ¬ q_A σ s.heap.size b ∧ L ≤ 2048
theorem w_sld (C : q_C σ p s m args c cc nL own Ts) (X : w_X σ s b L xs) {j : Nat} (hj : j < L) (hd : decode cc pc = .ok (.iaload, 1)) (kk : q_W σ p l e R s m args below meth c Q nL cells slots V G lv (pc + 1) (.int (xs j) :: st)) : q_W σ p l e R s m args below meth c Q nL cells slots V G lv pc (.int (nI j) :: .ref b :: st) := fun H locs ls hP hS hl => by
  have h9 : L ≤ 2048 := X.2.2.2
  refine va_sld C.1 C.2.1 X.1 X.2.1 X.2.2.1 hS (vp_in_nI hj (by omega)) hd ?_
  rw [nI_clamp (by omega)]
  exact kk H locs ls hP hS hl
theorem w_slen (C : q_C σ p s m args c cc nL own Ts) (X : w_X σ s b L xs) (hd : decode cc pc = .ok (.arraylength, 1)) (kk : q_W σ p l e R s m args below meth c Q nL cells slots V G lv (pc + 1) (.int (nI L) :: st)) : q_W σ p l e R s m args below meth c Q nL cells slots V G lv pc (.ref b :: st) := fun H locs ls hP hS hl => va_slen C.1 C.2.1 X.1 X.2.1 X.2.2.1 hS hd (kk H locs ls hP hS hl)
theorem w_widen {k n : Nat} (h1 : cells ≤ k) (h2 : slots ≤ n) (kk : q_W σ p l e R s m args below meth c Q nL k n V G lv pc st) : q_W σ p l e R s m args below meth c Q nL cells slots V G lv pc st := fun H locs ls hP hS hl => W.widen h1 h2 (kk H locs ls hP hS hl)
theorem w_ret (C : q_C σ p s m #[Value.ref b] c code nL own Ts) (hr : meth.sig.returnType = ret) (hlocks : meth.locks = false) (hσ : ∀ k, k < 90 → s.heap.size ≤ σ.2.1 k) (hd : decode code pc = .ok (.ireturn, 1)) (h1 : cells ≤ 601024) (h2 : slots ≤ 7293034) : q_W σ p l e room_1 s m #[Value.ref b] below meth c (lw_Z below #[Value.ref b] s) nL cells slots V G lv pc [.int 1] := fun H locs ls hP hS hl =>
  W.widen h1 h2 (va_forget (fun q hq => (hS.2.2 q hq).elim (fun ⟨k, hk, hq⟩ => by rw [hq]; exact hσ k hk) (fun h => h)) (lw_ret C.1 C.2.1 hr hlocks hd))
theorem lg_cmp_self (x : Int64) : lg_cmp x x = 0 := by
  unfold lg_cmp
  rw [if_neg (by rw [gt_iff_lt, Int64.lt_iff_toInt_lt]; omega), if_pos rfl]
end LAWW
theorem w_and (a b : Nat) : nI a &&& nI b = nI (a &&& b) := by
  apply Int32.toBitVec_inj.1
  show BitVec.ofNat 32 a &&& BitVec.ofNat 32 b = BitVec.ofNat 32 (a &&& b)
  apply BitVec.eq_of_getLsbD_eq
  intro i hi
  simp [hi]
theorem w_mask (x : Int32) : ∃ k, k < 32 ∧ x &&& nI 31 = nI k := by
  have e : x = nI x.toBitVec.toNat := by
    apply Int32.toBitVec_inj.1
    show x.toBitVec = BitVec.ofNat 32 x.toBitVec.toNat
    simp
  refine ⟨x.toBitVec.toNat &&& 31, Nat.lt_succ_of_le Nat.and_le_right, ?_⟩
  rw [← w_and, ← e]
theorem w_room {i L : Nat} (hL : L ≤ 2048) (hi : i ≤ 4096) (h : ¬ nI L - nI 4 < nI i) : i + 4 ≤ L := by
  rw [Int32.lt_iff_toInt_lt, Int32.toInt_sub, nI_toInt (by omega), nI_toInt (by omega), nI_toInt (by omega)] at h
  rw [Int.bmod_eq_of_le (by omega) (by omega)] at h
  omega
/-! the reference's own things, which the program's methods leave as they are -/
def q_m (V U : q_V) : Prop := ∀ a, (a = 19 ∨ 69 ≤ a) → U a = V a
theorem q_m_rf (V : q_V) : q_m V V := fun _ _ => rfl
theorem q_m_up {V U : q_V} (h : q_m V U) {k : Nat} (hk : k ≠ 19 ∧ k < 69) (j : Nat) (x : Int32) : q_m V (q_up U k j x) := fun a ha => (q_up_off U x (by omega)).trans (h a ha)
theorem q_m_fill {V U : q_V} (h : q_m V U) {k : Nat} (hk : k ≠ 19 ∧ k < 69) (x : Int32) (n : Nat) : q_m V (q_fill U k x n) := fun a ha => (q_fill_off U x n (by omega)).trans (h a ha)
theorem q_m_cpy {V U : q_V} (h : q_m V U) {k1 k : Nat} (hk : k ≠ 19 ∧ k < 69) (n : Nat) : q_m V (q_cpy U k1 k n) := fun a ha => (q_cpy_off2 U n (by omega)).trans (h a ha)
theorem q_m_subr {V U : q_V} (h : q_m V U) {k : Nat} (hk : k < 40) (f : Nat → Int32) (n : Nat) : q_m V (q_subr U k f n) := fun a ha => (q_subr_off U f n (by omega)).trans (h a ha)
theorem q_m_addr {V U : q_V} (h : q_m V U) {k : Nat} (hk : k < 40) (f : Nat → Int32) (n : Nat) : q_m V (q_addr U k f n) := fun a ha => (q_addr_off U f n (by omega)).trans (h a ha)
theorem q_m_boff {V U : q_V} (h : q_boff V U) : q_m V U := fun a ha => funext fun j => h a j (by omega) (by omega) (by omega) (by omega)
theorem q_m_exch {V W : q_V} {rd : Nat → Prop} {gt : Nat → Nat → Prop} (h : ∃ U, q_boff V U ∧ q_exch U (q_best rd gt) (q_best rd gt).length = W) : q_m V W := by
  obtain ⟨U, hb, rfl⟩ := h
  exact fun a ha => (q_exch_off U (fun i hi => (q_best_in _ _ hi).1) _ (Nat.le_refl _) (by omega)).trans (q_m_boff hb a ha)
theorem w_mp {V U : q_V} {n : Nat} (h4 : q_R4 V n) (hm : q_m V U) : U 19 7 = nI n ∧ q_mpats U n := by
  refine ⟨by rw [hm 19 (Or.inl rfl)]; exact h4.2.1, ?_⟩
  intro pa hp
  have := q_Rel_mpats h4 pa hp
  unfold q_mok at this ⊢
  rw [hm 73 (by omega), hm 74 (by omega)]
  exact this
theorem w_md {V U : q_V} (h3 : q_R3 V) (hm : q_m V U) : U 19 4 = nI (q_gw V 0) ∧ U 19 5 = nI (q_gh V 0) := by
  rw [hm 19 (Or.inl rfl)]
  exact ⟨h3.2.1.trans h3.1.1, h3.2.2.1.trans h3.1.2.1⟩
theorem w_ms {V U : q_V} {ns : Nat} (h6 : q_R6 V ns) (hm : q_m V U) : U 19 20 = nI ns ∧ q_msgs U ns := by
  refine ⟨by rw [hm 19 (Or.inl rfl)]; exact h6.2.1, ?_⟩
  intro t ht
  have := q_Rel_msgs h6 t ht
  unfold q_sok at this ⊢
  rw [hm 85 (by omega), hm 86 (by omega)]
  exact this
theorem w_mb {V U : q_V} {n : Nat} (h7 : q_R7 V n) (hm : q_m V U) : q_mbelts U n ∧ ∀ b, b < 20 → ∃ a, a < 7 ∧ U 79 b = nI a := by
  obtain ⟨a1, -, a3, -⟩ := q_Rel_mbelts h7
  refine ⟨?_, ?_⟩
  · intro b hb
    rw [hm 78 (by omega)]
    exact a1 b hb
  · intro b hb
    rw [hm 79 (by omega)]
    exact a3 b hb
theorem w_mo {V U : q_V} {n : Nat} (h5 : q_R5 V n) (hm : q_m V U) : (∀ pa, pa < n → ∃ o, o < n ∧ U 77 pa = nI o) ∧ ∀ pa, pa < n → ∃ a, a < 7 ∧ U 76 pa = nI a := by
  refine ⟨fun pa hp => ?_, fun pa hp => ?_⟩
  · obtain ⟨-, -, o, ho, e⟩ := h5 pa hp
    exact ⟨o, Nat.lt_of_le_of_lt ho.1 hp, by rw [hm 77 (by omega)]; exact e⟩
  · obtain ⟨e, ⟨a, ha, e2⟩, -⟩ := h5 pa hp
    exact ⟨a, ha, by rw [hm 76 (by omega), e]; exact e2⟩
theorem w_mw {V U : q_V} (h9 : q_R9 V) (hm : q_m V U) : ∀ a, a < 7 → U 81 a = -1 ∨ ((∃ c, c < 8 ∧ U 81 a = nI c) ∧ ∃ d, d < 8 ∧ U 82 a = nI d) := by
  rw [hm 81 (by omega), hm 82 (by omega)]
  exact (q_Rel_wish h9).1
/-- the law's locals at the head of its loop -/
abbrev w_lv (σ : q_E) (b i : Nat) : List (Nat × Value) := [(0, .ref b), (1, .ref (σ.2.1 0)), (2, .ref (σ.2.1 19)), (3, .ref (σ.2.1 18)), (4, .int (nI i))]
