/-- row i with its first k even places at -1 -/
def w_m1 (V : q_V) (i k : Nat) : q_V := fun a j => if a = i ∧ j < 2 * k ∧ j % 2 = 0 then -1 else V a j
theorem w_m1_0 (V : q_V) (i : Nat) : w_m1 V i 0 = V := by
  funext a j
  exact if_neg (by omega)
theorem w_m1_up (V : q_V) (i k : Nat) : q_up (w_m1 V i k) i (2 * k) (-1) = w_m1 V i (k + 1) := by
  funext a j
  unfold q_up w_m1
  by_cases h : a = i ∧ j = 2 * k
  · rw [if_pos h, if_pos ⟨h.1, by omega, by omega⟩]
  · rw [if_neg h]
    by_cases h2 : a = i ∧ j < 2 * k ∧ j % 2 = 0
    · rw [if_pos h2, if_pos ⟨h2.1, by omega, h2.2.2⟩]
    · rw [if_neg h2, if_neg (fun z => h2 ⟨z.1, by
        have := z.2.1
        have := z.2.2
        have : ¬ j = 2 * k := fun y => h ⟨z.1, y⟩
        omega, z.2.2⟩)]
def w_V1 : q_V := q_up w_V0 18 0 (nI (gemp 1 1))
def w_V2 : q_V := w_m1 w_V1 71 6
def w_V3 : q_V := w_m1 w_V2 73 7
theorem w_m1_ne {V : q_V} {i k a j : Nat} (h : ¬ (a = i ∧ j < 2 * k ∧ j % 2 = 0)) : w_m1 V i k a j = V a j := if_neg h
theorem w_m1_in {V : q_V} {i k j : Nat} (h : j < k) : w_m1 V i k i (2 * j) = -1 := if_pos ⟨rfl, by omega, by omega⟩
theorem w_V3_off {a j : Nat} (h : ¬ (a = 18 ∨ a = 71 ∨ a = 73)) : w_V3 a j = w_V0 a j := (w_m1_ne (V := w_V2) (i := 73) (k := 7) (by omega)).trans ((w_m1_ne (V := w_V1) (i := 71) (k := 6) (by omega)).trans (q_up_ne w_V0 (k := 18) (j := 0) _ (by omega)))
theorem w_V3_0 {a j : Nat} (h : ¬ (a = 18 ∨ a = 71 ∨ a = 73) ∧ a ≠ 6 ∧ a ≠ 13 ∧ a ≠ 14 ∧ ¬ (27 ≤ a ∧ a < 48)) : w_V3 a j = 0 := (w_V3_off h.1).trans (congrFun (w_V0_0 h.2) j)
theorem w_V3_6 {j : Nat} (h : j < 20) : w_V3 6 j = -1 := (w_V3_off (by omega)).trans (w_fl_in (-1) 20 j h (fun _ => 0))
theorem w_V3_13 {j : Nat} (h : j < 7) : w_V3 13 j = -1 := (w_V3_off (by omega)).trans (w_fl_in (-1) 7 j h (fun _ => 0))
theorem w_V1_0 {a j : Nat} (h : ¬ (a = 18 ∧ j = 0) ∧ a ≠ 6 ∧ a ≠ 13 ∧ a ≠ 14 ∧ ¬ (27 ≤ a ∧ a < 48)) : w_V1 a j = 0 := (q_up_ne w_V0 (k := 18) (j := 0) _ (by omega)).trans (congrFun (w_V0_0 h.2) j)
theorem w_V3_71 {j : Nat} (h : j < 6) : w_V3 71 (2 * j) = -1 ∧ w_V3 71 (2 * j + 1) = 0 := ⟨(w_m1_ne (V := w_V2) (i := 73) (k := 7) (by omega)).trans (w_m1_in (V := w_V1) h), (w_m1_ne (V := w_V2) (i := 73) (k := 7) (by omega)).trans ((w_m1_ne (V := w_V1) (i := 71) (k := 6) (by omega)).trans (w_V1_0 (by omega)))⟩
theorem w_V3_73 {j : Nat} (h : j < 7) : w_V3 73 (2 * j) = -1 := w_m1_in (V := w_V2) h
theorem w_V3_18 : w_V3 18 0 = nI (gemp 1 1) := (w_m1_ne (V := w_V2) (i := 73) (k := 7) (by omega)).trans ((w_m1_ne (V := w_V1) (i := 71) (k := 6) (by omega)).trans (q_up_self w_V0 18 0 _))
theorem w_V3_18s {j : Nat} (h : j ≠ 0) : w_V3 18 j = 0 := (w_m1_ne (V := w_V2) (i := 73) (k := 7) (by omega)).trans ((w_m1_ne (V := w_V1) (i := 71) (k := 6) (by omega)).trans (w_V1_0 (by omega)))
theorem w_V3_27 : w_V3 27 1 = 1 ∧ w_V3 27 2 = 1 := ⟨(w_V3_off (by omega)).trans rfl, (w_V3_off (by omega)).trans rfl⟩
theorem w_chs0 {c : Nat} : ∀ k, k ≤ 7 → q_chs2 w_V3 c k = 0
  | 0, _ => w_V3_0 (by omega)
  | k + 1, h => by
    show q_chs2 w_V3 c k + w_V3 (20 + k) c = 0
    rw [w_chs0 k (by omega), w_V3_0 (by omega)]
    rfl
theorem w_cbs0 {c : Nat} : ∀ k, k ≤ 20 → q_cbs w_V3 c k = 0
  | 0, _ => w_chs0 7 (Nat.le_refl 7)
  | k + 1, h => by
    show q_cbs w_V3 c k + q_cbelt w_V3 k (nI c) = 0
    rw [w_cbs0 k (by omega), q_cbelt_n (w_V3_6 (by omega))]
    rfl
theorem w_Rel0 : zRel w_V3 w_G0 (30 * 0) 0 0 (gemp 1 1) (fun _ => 0) (fun _ => 0) := by
  obtain ⟨-, b1, b2, b3, b4⟩ := gemp_facts 1 (by omega) 1 (by omega)
  have h0 : ∀ u v, u < 3 → v < 3 → gat (gemp 1 1) u v = 0 := fun u v hu hv => b4 _ (by omega)
  refine ⟨fun p c hp hc => ?_, fun c hc => ?_, ⟨w_V3_18, ⟨b1, by omega, by omega, by omega, by omega, fun u v hu hv _ => h0 u v hu hv⟩, ?_, fun u v hu hv => ?_⟩, ⟨w_V3_0 (by omega), w_V3_18s (by omega), by omega, fun pa hp => absurd hp (Nat.not_lt_zero _)⟩, fun pa hp => absurd hp (Nat.not_lt_zero _), ⟨w_V3_0 (by omega), w_V3_18s (by omega), by omega, fun pa hp => absurd hp (Nat.not_lt_zero _)⟩, ⟨fun b hb => ?_, fun b h6 hb => w_V3_6 hb, fun b hb => ⟨0, by omega, w_V3_0 (by omega)⟩⟩, fun p hp => ?_, fun p hp => ⟨?_, Or.inl (w_V3_13 hp)⟩, fun p hp => rfl⟩
  · rw [w_V3_0 (by omega), w_V3_0 (by omega)]
    exact ⟨rfl, 0, by omega, rfl⟩
  · rw [w_V3_0 (by omega), w_V3_0 (by omega), w_V3_0 (by omega), w_V3_0 (by omega), w_cbs0 20 (Nat.le_refl 20)]
    exact ⟨rfl, ⟨0, by omega, rfl⟩, rfl, rfl⟩
  · rw [b2, b3]
    exact ⟨w_V3_27.1, w_V3_27.2, by omega, by omega, by omega, by omega⟩
  · rw [b2] at hu
    rw [b3] at hv
    rw [h0 u v (by omega) (by omega), w_V3_0 (by omega)]
    rfl
  · rw [(w_V3_71 hb).1, (w_V3_71 hb).2, w_V3_6 (by omega), w_V3_0 (by omega)]
    exact ⟨rfl, rfl, Or.inl rfl⟩
  · rw [w_V3_0 (by omega), w_V3_0 (by omega)]
  · rw [w_V3_73 hp, w_V3_13 hp]
set_option maxHeartbeats 1000000 in
set_option maxRecDepth 100000 in
/-- the law's first rows, then its turns -/
theorem w_pre {σ : q_E} {p : Program} {e : Env} {s : State} {m : MethodId} {below : List Frame} {meth : Method} {c : Code} {b L : Nat} {xs : Nat → Int32} (l : Launch) (hlf : l.stackTraces = false) (C : q_C σ p s m #[Value.ref b] c cL_law 21 RL wsL_law) (X : w_X σ s b L xs) (hr : meth.sig.returnType = ret) (hlocks : meth.locks = false) (hσ : ∀ k, k < 75 → s.heap.size ≤ σ.2.1 k) {cells slots : Nat} (hce : cells ≤ 1000) (hse : slots ≤ 10000) : q_W σ p l e room_1 s m #[Value.ref b] below meth c (lw_Z below #[Value.ref b] s) 21 cells slots w_V0 w_G0 [(0, .ref b), (1, .ref (σ.2.1 0)), (2, .ref (σ.2.1 69)), (3, .ref (σ.2.1 70)), (4, .ref (σ.2.1 71)), (5, .ref (σ.2.1 72)), (6, .ref (σ.2.1 73)), (7, .ref (σ.2.1 74)), (8, .ref (σ.2.1 19)), (9, .ref (σ.2.1 18))] 53 [] := by
  refine q_aload C dL_law_53 9 rfl ?_
  refine q_iconst C (nI 0) dL_law_55 (by decide) ?_
  refine q_iconst C (nI 1) dL_law_56 (by decide) ?_
  refine q_iconst C (nI 1) dL_law_57 (by decide) ?_
  refine q_callSi C (As := [.int (nI 1), .int (nI 1)]) (rest := [.int (nI 0), .ref (σ.2.1 18)]) (kL_empty l σ w_V0 w_G0 (x := 1) (y := 1) (by omega) (by omega)) 2 gL_law_L_empty rfl rfl rfl (by decide +kernel) ⟨Nat.le_of_ble_eq_true rfl, Nat.le_of_ble_eq_true rfl⟩ dL_law_58 rfl (Nat.le_of_ble_eq_true rfl) ⟨by show _ ≤ 658728; omega, by show _ ≤ 7125285; omega⟩ (fun r_58 V_1 G_2 hq_58 => ?_)
  obtain ⟨rfl, rfl, rfl⟩ := hq_58
  refine q_iastN C (k := 18) (n := 3) ⟨by decide, by decide, by decide⟩ (by omega) (by decide) dL_law_61 ?_
  refine q_VG (V' := w_V1) (G' := w_G0) (by rfl) rfl ?_
  refine q_iconst C (nI 0) dL_law_62 (by decide) ?_
  refine q_istore C [(10, .int (nI 0)), (0, .ref b), (1, .ref (σ.2.1 0)), (2, .ref (σ.2.1 69)), (3, .ref (σ.2.1 70)), (4, .ref (σ.2.1 71)), (5, .ref (σ.2.1 72)), (6, .ref (σ.2.1 73)), (7, .ref (σ.2.1 74)), (8, .ref (σ.2.1 19)), (9, .ref (σ.2.1 18))] dL_law_63 (by decide) rfl ?_
  have L_3 : ∀ (nL_3 : Nat) (k : Nat) (hk : k ≤ 6), 6 - k < nL_3 → q_W σ p l e room_1 s m #[Value.ref b] below meth c (lw_Z below #[Value.ref b] s) 21 cells slots (w_m1 w_V1 71 k) w_G0 [(10, .int (nI k)), (0, .ref b), (1, .ref (σ.2.1 0)), (2, .ref (σ.2.1 69)), (3, .ref (σ.2.1 70)), (4, .ref (σ.2.1 71)), (5, .ref (σ.2.1 72)), (6, .ref (σ.2.1 73)), (7, .ref (σ.2.1 74)), (8, .ref (σ.2.1 19)), (9, .ref (σ.2.1 18))] 65 [] := by
    intro nL_3
    induction nL_3 with
    | zero => intro k hk h; exact absurd h (Nat.not_lt_zero _)
    | succ nL_3 ihL_3 =>
      intro k hk hmL_3
      refine q_iload C dL_law_65 0 rfl ?_
      refine q_bipush C (nI 6) dL_law_67 (by decide) ?_
      refine q_icmp_geN C 86 dL_law_69 (by decide) (by omega) (by omega) (fun c_69 => ?_) (fun c_69 => ?_)
      · skip
        have e6 : k = 6 := by omega
        subst e6
        refine q_VG (V' := w_V2) (G' := w_G0) rfl rfl ?_
        refine q_iconst C (nI 0) dL_law_86 (by decide) ?_
        refine q_istore C [(10, .int (nI 0)), (0, .ref b), (1, .ref (σ.2.1 0)), (2, .ref (σ.2.1 69)), (3, .ref (σ.2.1 70)), (4, .ref (σ.2.1 71)), (5, .ref (σ.2.1 72)), (6, .ref (σ.2.1 73)), (7, .ref (σ.2.1 74)), (8, .ref (σ.2.1 19)), (9, .ref (σ.2.1 18))] dL_law_87 (by decide) rfl ?_
        have L_4 : ∀ (nL_4 : Nat) (k : Nat) (hk : k ≤ 7), 7 - k < nL_4 → q_W σ p l e room_1 s m #[Value.ref b] below meth c (lw_Z below #[Value.ref b] s) 21 cells slots (w_m1 w_V2 73 k) w_G0 [(10, .int (nI k)), (0, .ref b), (1, .ref (σ.2.1 0)), (2, .ref (σ.2.1 69)), (3, .ref (σ.2.1 70)), (4, .ref (σ.2.1 71)), (5, .ref (σ.2.1 72)), (6, .ref (σ.2.1 73)), (7, .ref (σ.2.1 74)), (8, .ref (σ.2.1 19)), (9, .ref (σ.2.1 18))] 89 [] := by
          intro nL_4
          induction nL_4 with
          | zero => intro k hk h; exact absurd h (Nat.not_lt_zero _)
          | succ nL_4 ihL_4 =>
            intro k hk hmL_4
            refine q_iload C dL_law_89 0 rfl ?_
            refine q_bipush C (nI 7) dL_law_91 (by decide) ?_
            refine q_icmp_geN C 110 dL_law_93 (by decide) (by omega) (by omega) (fun c_93 => ?_) (fun c_93 => ?_)
            · skip
              have e7 : k = 7 := by omega
              subst e7
              refine q_VG (V' := w_V3) (G' := w_G0) rfl rfl ?_
              refine q_iconst C (nI 0) dL_law_110 (by decide) ?_
              refine q_istore C [(10, .int (nI 0)), (0, .ref b), (1, .ref (σ.2.1 0)), (2, .ref (σ.2.1 69)), (3, .ref (σ.2.1 70)), (4, .ref (σ.2.1 71)), (5, .ref (σ.2.1 72)), (6, .ref (σ.2.1 73)), (7, .ref (σ.2.1 74)), (8, .ref (σ.2.1 19)), (9, .ref (σ.2.1 18))] dL_law_111 (by decide) rfl ?_
              refine q_sub (lv' := [(10, .int (nI 0)), (0, .ref b), (1, .ref (σ.2.1 0)), (2, .ref (σ.2.1 69)), (3, .ref (σ.2.1 70)), (4, .ref (σ.2.1 71)), (5, .ref (σ.2.1 72)), (6, .ref (σ.2.1 73)), (7, .ref (σ.2.1 74)), (8, .ref (σ.2.1 19)), (9, .ref (σ.2.1 18))]) [0, 1, 2, 3, 4, 5, 6, 7, 8, 9, 10] rfl ?_
              exact w_loop l hlf C X hr hlocks hσ 51 0 w_V3 w_G0 0 0 (gemp 1 1) (fun _ => 0) (fun _ => 0) cells slots w_Rel0 (by omega) (by omega) (by omega) (by omega)
            · skip
              refine q_aload C dL_law_96 7 rfl ?_
              refine q_iconst C (nI 2) dL_law_98 (by decide) ?_
              refine q_iload C dL_law_99 0 rfl ?_
              refine q_imulN C dL_law_101  ?_
              refine q_iconst C ((-1)) dL_law_102 (by decide) ?_
              refine q_iastN C (k := 73) (n := 14) ⟨by decide, by decide, by decide⟩ (by omega) (by decide) dL_law_103 ?_
              refine q_VG (V' := w_m1 w_V2 73 (k + 1)) (G' := w_G0) (by exact w_m1_up w_V2 73 k) rfl ?_
              refine q_iincN C [(10, .int (nI (k + 1))), (0, .ref b), (1, .ref (σ.2.1 0)), (2, .ref (σ.2.1 69)), (3, .ref (σ.2.1 70)), (4, .ref (σ.2.1 71)), (5, .ref (σ.2.1 72)), (6, .ref (σ.2.1 73)), (7, .ref (σ.2.1 74)), (8, .ref (σ.2.1 19)), (9, .ref (σ.2.1 18))] dL_law_104 0 rfl (by decide) rfl ?_
              refine q_goto C 89 dL_law_107 (by decide) ?_
              refine q_sub (lv' := [(10, .int (nI (k + 1))), (0, .ref b), (1, .ref (σ.2.1 0)), (2, .ref (σ.2.1 69)), (3, .ref (σ.2.1 70)), (4, .ref (σ.2.1 71)), (5, .ref (σ.2.1 72)), (6, .ref (σ.2.1 73)), (7, .ref (σ.2.1 74)), (8, .ref (σ.2.1 19)), (9, .ref (σ.2.1 18))]) [0, 1, 2, 3, 4, 5, 6, 7, 8, 9, 10] rfl ?_
              exact ihL_4 (k + 1) (by omega) (by omega)
        refine q_sub (lv' := [(10, .int (nI 0)), (0, .ref b), (1, .ref (σ.2.1 0)), (2, .ref (σ.2.1 69)), (3, .ref (σ.2.1 70)), (4, .ref (σ.2.1 71)), (5, .ref (σ.2.1 72)), (6, .ref (σ.2.1 73)), (7, .ref (σ.2.1 74)), (8, .ref (σ.2.1 19)), (9, .ref (σ.2.1 18))]) [0, 1, 2, 3, 4, 5, 6, 7, 8, 9, 10] rfl ?_
        refine q_VG (V' := w_m1 w_V2 73 0) (G' := w_G0) (by rw [w_m1_0]) rfl ?_
        exact L_4 _ 0 (Nat.zero_le _) (Nat.lt_succ_self _)
      · skip
        refine q_aload C dL_law_72 5 rfl ?_
        refine q_iconst C (nI 2) dL_law_74 (by decide) ?_
        refine q_iload C dL_law_75 0 rfl ?_
        refine q_imulN C dL_law_77  ?_
        refine q_iconst C ((-1)) dL_law_78 (by decide) ?_
        refine q_iastN C (k := 71) (n := 12) ⟨by decide, by decide, by decide⟩ (by omega) (by decide) dL_law_79 ?_
        refine q_VG (V' := w_m1 w_V1 71 (k + 1)) (G' := w_G0) (by exact w_m1_up w_V1 71 k) rfl ?_
        refine q_iincN C [(10, .int (nI (k + 1))), (0, .ref b), (1, .ref (σ.2.1 0)), (2, .ref (σ.2.1 69)), (3, .ref (σ.2.1 70)), (4, .ref (σ.2.1 71)), (5, .ref (σ.2.1 72)), (6, .ref (σ.2.1 73)), (7, .ref (σ.2.1 74)), (8, .ref (σ.2.1 19)), (9, .ref (σ.2.1 18))] dL_law_80 0 rfl (by decide) rfl ?_
        refine q_goto C 65 dL_law_83 (by decide) ?_
        refine q_sub (lv' := [(10, .int (nI (k + 1))), (0, .ref b), (1, .ref (σ.2.1 0)), (2, .ref (σ.2.1 69)), (3, .ref (σ.2.1 70)), (4, .ref (σ.2.1 71)), (5, .ref (σ.2.1 72)), (6, .ref (σ.2.1 73)), (7, .ref (σ.2.1 74)), (8, .ref (σ.2.1 19)), (9, .ref (σ.2.1 18))]) [0, 1, 2, 3, 4, 5, 6, 7, 8, 9, 10] rfl ?_
        exact ihL_3 (k + 1) (by omega) (by omega)
  refine q_sub (lv' := [(10, .int (nI 0)), (0, .ref b), (1, .ref (σ.2.1 0)), (2, .ref (σ.2.1 69)), (3, .ref (σ.2.1 70)), (4, .ref (σ.2.1 71)), (5, .ref (σ.2.1 72)), (6, .ref (σ.2.1 73)), (7, .ref (σ.2.1 74)), (8, .ref (σ.2.1 19)), (9, .ref (σ.2.1 18))]) [0, 1, 2, 3, 4, 5, 6, 7, 8, 9, 10] rfl ?_
  refine q_VG (V' := w_m1 w_V1 71 0) (G' := w_G0) (by rw [w_m1_0]) rfl ?_
  exact L_3 _ 0 (Nat.zero_le _) (Nat.lt_succ_self _)
