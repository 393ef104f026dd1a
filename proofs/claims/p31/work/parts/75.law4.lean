theorem z_all_s {f : Nat → Prop} {k : Nat} {P Q : Prop} (hP : P ↔ ∀ i, i < k → f i) (hQ : Q ↔ f k) : (P ∧ Q) ↔ ∀ i, i < k + 1 → f i := by
  rw [hP, hQ]
  constructor
  · rintro ⟨a1, a2⟩ i hi
    rcases Nat.lt_or_ge i k with q | q
    · exact a1 i q
    · rw [show i = k by omega]; exact a2
  · intro a
    exact ⟨fun i hi => a i (by omega), a k (Nat.lt_succ_self k)⟩
theorem z_nm1 {V : q_V} {n k : Nat} (h7 : zR7 V n) (hk : k < 6) (h : ¬ V 71 (2 * k) < 0) : ¬ V 6 k = -1 := fun e => h (by rw [(h7.1 k hk).1, e]; decide)
theorem q_upL_upL (G : q_G) (k j : Nat) (x y : Int64) : q_upL (q_upL G k j x) k j y = q_upL G k j y := by
  funext a b
  by_cases h : a = k ∧ b = j
  · simp [q_upL, h]
  · simp only [q_upL, if_neg h]
theorem q_upL_same {G : q_G} {k j : Nat} {x : Int64} (h : G k j = x) : q_upL G k j x = G := by
  funext a b
  by_cases e : a = k ∧ b = j
  · obtain ⟨rfl, rfl⟩ := e
    rw [q_upL_self, h]
  · rw [q_upL_ne G x e]
theorem z_lc0 {G : q_G} {w : Nat} {S B : Int64} (h : G 19 w = G 12 w) : lg_cmp (q_upL G 19 w (G 19 w + S) 12 w + S) (q_upL (q_upL G 19 w (G 19 w + S)) 12 w B 19 w) = 0 := by
  rw [q_upL_ne _ _ (by omega), q_upL_ne _ _ (by omega), q_upL_self, h]
  unfold lg_cmp
  rw [if_neg (by rw [gt_iff_lt, Int64.lt_iff_toInt_lt]; omega), if_pos rfl]
theorem z_hear10 {G : q_G} {w : Nat} {A B : Int64} (h : zR10 G) (e : A = B) : zR10 (q_upL (q_upL G 19 w A) 12 w B) := fun p hp => by
  by_cases q : p = w
  · subst q
    rw [q_upL_ne _ _ (by omega), q_upL_self, q_upL_self, e]
  · rw [q_upL_ne _ _ (by omega), q_upL_ne _ _ (by omega), q_upL_ne _ _ (by omega), q_upL_ne _ _ (by omega)]
    exact h p hp
theorem zRel_G {V : q_V} {G K : q_G} {B n ns g0 : Nat} {gp gs : Nat → Nat} (h : zRel V G B n ns g0 gp gs) (hK : zR10 K) : zRel V K B n ns g0 gp gs := by
  obtain ⟨h1, h2, h3, h4, h5, h6, h7, h8, h9, -⟩ := h
  exact ⟨h1, h2, h3, h4, h5, h6, h7, h8, h9, hK⟩
set_option maxHeartbeats 1000000 in
set_option maxRecDepth 100000 in
/-- a belt is woven -/
theorem w_weave {σ : q_E} {p : Program} {e : Env} {s : State} {m : MethodId} {below : List Frame} {meth : Method} {c : Code} {Q : State → Prop} {b : Nat} (l : Launch) (hlf : l.stackTraces = false) (C : q_C σ p s m #[Value.ref b] c cL_law 21 RL wsL_law) {cells slots : Nat} (hce : cells + 960 ≤ 658728) (hse : slots + 5760 ≤ 7125285) {V : q_V} {G : q_G} {t n ns g0 : Nat} {gp gs : Nat → Nat} (hrel : zRel V G (30 * t) n ns g0 gp gs) (ht : t < 50) {wh col : Nat} (hwh : wh < 5) (hcol : col < 8) (y : Int32) (kk : z_K σ p l e s m b below meth c Q cells slots t) : q_W σ p l e room_1 s m #[Value.ref b] below meth c Q 21 cells slots V G [(15, .int (nI col)), (14, .int (nI wh)), (12, .int y), (10, .int (nI t)), (0, .ref b), (1, .ref (σ.2.1 0)), (2, .ref (σ.2.1 69)), (3, .ref (σ.2.1 70)), (4, .ref (σ.2.1 71)), (5, .ref (σ.2.1 72)), (6, .ref (σ.2.1 73)), (7, .ref (σ.2.1 74)), (8, .ref (σ.2.1 19)), (9, .ref (σ.2.1 18))] 828 [] := by
  have hn6 := hrel.2.2.2.1.2.2.1
  refine q_aload C dL_law_828 13 rfl ?_
  refine q_iconst C (nI 1) dL_law_830 (by decide) ?_
  refine q_ialdN C (k := 18) (n := 3) ⟨by decide, by decide, by decide⟩ (by omega) (by decide) dL_law_831 ?_
  refine q_stk (st' := [.int (nI n)]) (congrArg (fun z => Value.int z :: []) (hrel.2.2.2.1.2.1)) ?_
  refine q_if_neN C 838 dL_law_832 (by decide) (by omega) (fun c_832 => ?_) (fun c_832 => ?_)
  · skip
    refine q_iload C dL_law_838 2 rfl ?_
    refine q_aload C dL_law_840 13 rfl ?_
    refine q_iconst C (nI 1) dL_law_842 (by decide) ?_
    refine q_ialdN C (k := 18) (n := 3) ⟨by decide, by decide, by decide⟩ (by omega) (by decide) dL_law_843 ?_
    refine q_stk (st' := [.int (nI n), .int y]) (congrArg (fun z => Value.int z :: [.int y]) (hrel.2.2.2.1.2.1)) ?_
    refine q_callSi C (As := [.int y, .int (nI n)]) (rest := []) (kL_low l σ V G y (n := n) (by omega) (by omega)) 2 gL_law_L_low rfl rfl rfl (by decide +kernel) ⟨Nat.le_of_ble_eq_true rfl, Nat.le_of_ble_eq_true rfl⟩ dL_law_844 rfl (Nat.le_of_ble_eq_true rfl) ⟨by show _ ≤ 658728; omega, by show _ ≤ 7125285; omega⟩ (fun r_844 V_1 G_2 hq_844 => ?_)
    obtain ⟨⟨lo_844, hlo_844, rfl⟩, rfl, rfl⟩ := hq_844
    refine q_istore C [(16, .int (nI lo_844)), (15, .int (nI col)), (14, .int (nI wh)), (12, .int y), (10, .int (nI t)), (0, .ref b), (1, .ref (σ.2.1 0)), (2, .ref (σ.2.1 69)), (3, .ref (σ.2.1 70)), (4, .ref (σ.2.1 71)), (5, .ref (σ.2.1 72)), (6, .ref (σ.2.1 73)), (7, .ref (σ.2.1 74)), (8, .ref (σ.2.1 19)), (9, .ref (σ.2.1 18))] dL_law_847 (by decide) rfl ?_
    obtain ⟨-, -, oo, hoo1, hoo2⟩ := hrel.2.2.2.2.1 lo_844 hlo_844
    have hoon : oo < n := Nat.lt_of_le_of_lt hoo1.1 hlo_844
    obtain ⟨hau1, ⟨au, hau7, hau2⟩, -⟩ := hrel.2.2.2.2.1 oo hoon
    refine q_iconst C (nI 0) dL_law_849 (by decide) ?_
    refine q_istore C [(17, .int (nI 0)), (16, .int (nI lo_844)), (15, .int (nI col)), (14, .int (nI wh)), (12, .int y), (10, .int (nI t)), (0, .ref b), (1, .ref (σ.2.1 0)), (2, .ref (σ.2.1 69)), (3, .ref (σ.2.1 70)), (4, .ref (σ.2.1 71)), (5, .ref (σ.2.1 72)), (6, .ref (σ.2.1 73)), (7, .ref (σ.2.1 74)), (8, .ref (σ.2.1 19)), (9, .ref (σ.2.1 18))] dL_law_850 (by decide) rfl ?_
    have J_3 : ∀ (k : Nat) (hk : k ≤ 6) (hbel : ∀ b, b < k → ¬ V 6 b = -1) (hfree : k < 6 → V 6 k = -1), q_W σ p l e room_1 s m #[Value.ref b] below meth c Q 21 cells slots V G [(17, .int (nI k)), (18, .int (q_w01 True)), (0, .ref b), (1, .ref (σ.2.1 0)), (2, .ref (σ.2.1 69)), (3, .ref (σ.2.1 70)), (4, .ref (σ.2.1 71)), (5, .ref (σ.2.1 72)), (6, .ref (σ.2.1 73)), (7, .ref (σ.2.1 74)), (8, .ref (σ.2.1 19)), (9, .ref (σ.2.1 18)), (10, .int (nI t)), (12, .int y), (14, .int (nI wh)), (15, .int (nI col)), (16, .int (nI lo_844))] 878 [] := by
      intro k hk hbel hfree
      refine q_iconst C (nI 0) dL_law_878 (by decide) ?_
      refine q_istore C [(19, .int (nI 0)), (17, .int (nI k)), (18, .int (q_w01 True)), (0, .ref b), (1, .ref (σ.2.1 0)), (2, .ref (σ.2.1 69)), (3, .ref (σ.2.1 70)), (4, .ref (σ.2.1 71)), (5, .ref (σ.2.1 72)), (6, .ref (σ.2.1 73)), (7, .ref (σ.2.1 74)), (8, .ref (σ.2.1 19)), (9, .ref (σ.2.1 18)), (10, .int (nI t)), (12, .int y), (14, .int (nI wh)), (15, .int (nI col)), (16, .int (nI lo_844))] dL_law_879 (by decide) rfl ?_
      have L_4 : ∀ (nL_4 : Nat) (c8 : Nat) (P : Prop) (hc8 : c8 ≤ 8) (hP : P ↔ ∀ c1, c1 < c8 → nI (gneed (gp lo_844) c1) ≤ V (20 + wh) c1), 8 - c8 < nL_4 → q_W σ p l e room_1 s m #[Value.ref b] below meth c Q 21 cells slots V G [(18, .int (q_w01 P)), (19, .int (nI c8)), (0, .ref b), (1, .ref (σ.2.1 0)), (2, .ref (σ.2.1 69)), (3, .ref (σ.2.1 70)), (4, .ref (σ.2.1 71)), (5, .ref (σ.2.1 72)), (6, .ref (σ.2.1 73)), (7, .ref (σ.2.1 74)), (8, .ref (σ.2.1 19)), (9, .ref (σ.2.1 18)), (10, .int (nI t)), (12, .int y), (14, .int (nI wh)), (15, .int (nI col)), (16, .int (nI lo_844)), (17, .int (nI k))] 881 [] := by
        intro nL_4
        induction nL_4 with
        | zero => intro c8 P hc8 hP h; exact absurd h (Nat.not_lt_zero _)
        | succ nL_4 ihL_4 =>
          intro c8 P hc8 hP hmL_4
          refine q_iload C dL_law_881 1 rfl ?_
          refine q_bipush C (nI 8) dL_law_883 (by decide) ?_
          refine q_icmp_geN C 929 dL_law_885 (by decide) (by omega) (by omega) (fun c_885 => ?_) (fun c_885 => ?_)
          · skip
            refine q_iload C dL_law_929 0 rfl ?_
            refine q_if_neW C 950 dL_law_931 (by decide) (fun c_931 => ?_) (fun c_931 => ?_)
            · skip
              refine q_iload C dL_law_950 17 rfl ?_
              refine q_bipush C (nI 6) dL_law_952 (by decide) ?_
              refine q_icmp_neN C 960 dL_law_954 (by decide) (by omega) (by omega) (fun c_954 => ?_) (fun c_954 => ?_)
              · skip
                refine q_iconst C (nI 0) dL_law_960 (by decide) ?_
                refine q_istore C [(19, .int (nI 0)), (18, .int (q_w01 P)), (0, .ref b), (1, .ref (σ.2.1 0)), (2, .ref (σ.2.1 69)), (3, .ref (σ.2.1 70)), (4, .ref (σ.2.1 71)), (5, .ref (σ.2.1 72)), (6, .ref (σ.2.1 73)), (7, .ref (σ.2.1 74)), (8, .ref (σ.2.1 19)), (9, .ref (σ.2.1 18)), (10, .int (nI t)), (12, .int y), (14, .int (nI wh)), (15, .int (nI col)), (16, .int (nI lo_844)), (17, .int (nI k))] dL_law_961 (by decide) rfl ?_
                have L_5 : ∀ (nL_5 : Nat) (c9 : Nat) (hc9 : c9 ≤ 8), 8 - c9 < nL_5 → q_W σ p l e room_1 s m #[Value.ref b] below meth c Q 21 cells slots (z_sub72 V wh (fun j => nI (gneed (gp lo_844) j)) c9) G [(19, .int (nI c9)), (0, .ref b), (1, .ref (σ.2.1 0)), (2, .ref (σ.2.1 69)), (3, .ref (σ.2.1 70)), (4, .ref (σ.2.1 71)), (5, .ref (σ.2.1 72)), (6, .ref (σ.2.1 73)), (7, .ref (σ.2.1 74)), (8, .ref (σ.2.1 19)), (9, .ref (σ.2.1 18)), (10, .int (nI t)), (12, .int y), (14, .int (nI wh)), (15, .int (nI col)), (16, .int (nI lo_844)), (17, .int (nI k))] 963 [] := by
                  intro nL_5
                  induction nL_5 with
                  | zero => intro c9 hc9 h; exact absurd h (Nat.not_lt_zero _)
                  | succ nL_5 ihL_5 =>
                    intro c9 hc9 hmL_5
                    refine q_iload C dL_law_963 0 rfl ?_
                    refine q_bipush C (nI 8) dL_law_965 (by decide) ?_
                    refine q_icmp_geN C 1001 dL_law_967 (by decide) (by omega) (by omega) (fun c_967 => ?_) (fun c_967 => ?_)
                    · skip
                      refine q_VG (V' := z_sub72 V wh (fun j => nI (gneed (gp lo_844) j)) 8) (G' := G) (by rw [show c9 = 8 by omega]) rfl ?_
                      refine q_aload C dL_law_1001 5 rfl ?_
                      refine q_iconst C (nI 2) dL_law_1003 (by decide) ?_
                      refine q_iload C dL_law_1004 16 rfl ?_
                      refine q_imulN C dL_law_1006  ?_
                      refine q_iload C dL_law_1007 15 rfl ?_
                      refine q_iastN C (k := 71) (n := 12) ⟨by decide, by decide, by decide⟩ (by omega) (by decide) dL_law_1009 ?_
                      refine q_aload C dL_law_1010 5 rfl ?_
                      refine q_iconst C (nI 2) dL_law_1012 (by decide) ?_
                      refine q_iload C dL_law_1013 16 rfl ?_
                      refine q_imulN C dL_law_1015  ?_
                      refine q_iconst C (nI 1) dL_law_1016 (by decide) ?_
                      refine q_iaddN C dL_law_1017  ?_
                      refine q_iload C dL_law_1018 13 rfl ?_
                      refine q_iastN C (k := 71) (n := 12) ⟨by decide, by decide, by decide⟩ (by omega) (by decide) dL_law_1020 ?_
                      refine q_aload C dL_law_1021 8 rfl ?_
                      refine q_aload_n C dL_law_1023 rfl 3 rfl ?_
                      refine q_iconst C (nI 3) dL_law_1024 (by decide) ?_
                      refine q_aload_n C dL_law_1025 rfl 3 rfl ?_
                      refine q_iconst C (nI 3) dL_law_1026 (by decide) ?_
                      refine q_iload C dL_law_1027 15 rfl ?_
                      refine q_imulN C dL_law_1029  ?_
                      refine q_iconst C (nI 2) dL_law_1030 (by decide) ?_
                      refine q_iaddN C dL_law_1031  ?_
                      refine q_ialdN C (k := 69) (n := 18) ⟨by decide, by decide, by decide⟩ (by omega) (by decide) dL_law_1032 ?_
                      refine q_stk (st' := [.int ((z_sub72 V wh (fun j => nI (gneed (gp lo_844) j)) 8) 69 ((3 * lo_844) + 2)), .int (nI 3), .ref (σ.2.1 69), .ref (σ.2.1 74)]) (congrArg (fun z => Value.int z :: [.int (nI 3), .ref (σ.2.1 69), .ref (σ.2.1 74)]) ((q_up_ne _ _ (by omega)).trans (q_up_ne _ _ (by omega)))) ?_
                      refine q_stk (st' := [.int (nI oo), .int (nI 3), .ref (σ.2.1 69), .ref (σ.2.1 74)]) (congrArg (fun z => Value.int z :: [.int (nI 3), .ref (σ.2.1 69), .ref (σ.2.1 74)]) ((congrFun (z_sub72_off _ _ _ _ (by decide)) _).trans hoo2)) ?_
                      refine q_imulN C dL_law_1033  ?_
                      refine q_iconst C (nI 1) dL_law_1034 (by decide) ?_
                      refine q_iaddN C dL_law_1035  ?_
                      refine q_ialdN C (k := 69) (n := 18) ⟨by decide, by decide, by decide⟩ (by omega) (by decide) dL_law_1036 ?_
                      refine q_stk (st' := [.int ((z_sub72 V wh (fun j => nI (gneed (gp lo_844) j)) 8) 69 ((3 * oo) + 1)), .ref (σ.2.1 74)]) (congrArg (fun z => Value.int z :: [.ref (σ.2.1 74)]) ((q_up_ne _ _ (by omega)).trans (q_up_ne _ _ (by omega)))) ?_
                      refine q_stk (st' := [.int (nI au), .ref (σ.2.1 74)]) (congrArg (fun z => Value.int z :: [.ref (σ.2.1 74)]) ((congrFun (z_sub72_off _ _ _ _ (by decide)) _).trans (hau1.trans hau2))) ?_
                      refine q_dup2 C dL_law_1037 rfl rfl ?_
                      refine q_ialdN C (k := 74) (n := 15) ⟨by decide, by decide, by decide⟩ (by omega) (by decide) dL_law_1038 ?_
                      refine q_stk (st' := [.int ((z_sub72 V wh (fun j => nI (gneed (gp lo_844) j)) 8) 74 au), .int (nI au), .ref (σ.2.1 74)]) (congrArg (fun z => Value.int z :: [.int (nI au), .ref (σ.2.1 74)]) ((q_up_ne _ _ (by omega)).trans (q_up_ne _ _ (by omega)))) ?_
                      refine q_stk (st' := [.int (V 74 au), .int (nI au), .ref (σ.2.1 74)]) (congrArg (fun z => Value.int z :: [.int (nI au), .ref (σ.2.1 74)]) (congrFun (z_sub72_off _ _ _ _ (by decide)) _)) ?_
                      refine q_iconst C (nI 1) dL_law_1039 (by decide) ?_
                      refine q_iadd C dL_law_1040 ?_
                      refine q_iastN C (k := 74) (n := 15) ⟨by decide, by decide, by decide⟩ (by omega) (by decide) dL_law_1041 ?_
                      refine q_aload_n C dL_law_1042 rfl 2 rfl ?_
                      refine q_iload C dL_law_1043 13 rfl ?_
                      refine q_iload C dL_law_1045 15 rfl ?_
                      refine q_callVi C (As := [.int (nI wh), .int (nI lo_844)]) (rest := []) (k := 0) (by omega) q_enBP rfl rfl (zM_weave l σ V (q_up (q_up (q_up (z_sub72 V wh (fun j => nI (gneed (gp lo_844) j)) 8) 71 (2 * k) (nI lo_844)) 71 ((2 * k) + 1) (nI wh)) 74 au (((V 74 au) + nI 1))) G hlf (fun a h1 h2 => ((q_up_off _ _ (by omega)).trans ((q_up_off _ _ (by omega)).trans ((q_up_off _ _ (by omega)).trans (z_sub72_off _ _ _ _ (by omega)))))) hrel.2.2.2.1 hrel.2.2.2.2.1 (wh := wh) (its := lo_844) (kf := k) (o := oo) (au := au) hwh hlo_844 (by omega) hbel (hfree (by omega)) (fun c1 hc1 => hP.mp c_931 c1 (by omega)) hoo1 hau2 hau7) 2 gL_law_X2_weave rfl rfl rfl (by decide +kernel) ⟨Nat.le_of_ble_eq_true rfl, Nat.le_of_ble_eq_true rfl⟩ dL_law_1047 rfl (Nat.le_of_ble_eq_true rfl) ⟨by show _ ≤ 658728; omega, by show _ ≤ 7125285; omega⟩ (fun r_1047 V_6 G_7 hq_1047 => ?_)
                      obtain ⟨rfl, rfl, rfl⟩ := hq_1047
                      refine q_iload C dL_law_1050 16 rfl ?_
                      refine q_icmp_eq C 1057 dL_law_1052 (by decide) (fun c_1052 => ?_) (fun c_1052 => absurd c_1052 (by exact fun z => z rfl))
                      refine q_goto C 1572 dL_law_1057 (by decide) ?_
                      refine q_sub (lv' := [(15, .int (nI col)), (10, .int (nI t)), (0, .ref b), (1, .ref (σ.2.1 0)), (2, .ref (σ.2.1 69)), (3, .ref (σ.2.1 70)), (4, .ref (σ.2.1 71)), (5, .ref (σ.2.1 72)), (6, .ref (σ.2.1 73)), (7, .ref (σ.2.1 74)), (8, .ref (σ.2.1 19)), (9, .ref (σ.2.1 18))]) [14, 11, 1, 2, 3, 4, 5, 6, 7, 8, 9, 10] rfl ?_
                      exact w_tail l hlf C hce hse (z_weave hrel (by omega) hwh hlo_844 (by omega) (hfree (by omega)) (fun c1 hc1 => by rw [(hrel.1 wh c1 (by omega) hc1).1]; exact hP.mp c_931 c1 (by omega)) hau7) (by omega) ht hcol (by omega) (by omega) kk
                    · skip
                      refine q_aload C dL_law_970 6 rfl ?_
                      refine q_bipush C (nI 8) dL_law_972 (by decide) ?_
                      refine q_iload C dL_law_974 13 rfl ?_
                      refine q_imulN C dL_law_976  ?_
                      refine q_iload C dL_law_977 0 rfl ?_
                      refine q_iaddN C dL_law_979  ?_
                      refine q_dup2 C dL_law_980 rfl rfl ?_
                      refine q_ialdN C (k := 72) (n := 64) ⟨by decide, by decide, by decide⟩ (by omega) (by decide) dL_law_981 ?_
                      refine q_stk (st' := [.int (V 72 ((8 * wh) + c9)), .int (nI ((8 * wh) + c9)), .ref (σ.2.1 72)]) (congrArg (fun z => Value.int z :: [.int (nI ((8 * wh) + c9)), .ref (σ.2.1 72)]) (z_sub72_at _ _ _ _)) ?_
                      refine q_aload_n C dL_law_982 rfl 3 rfl ?_
                      refine q_iconst C (nI 3) dL_law_983 (by decide) ?_
                      refine q_iload C dL_law_984 15 rfl ?_
                      refine q_imulN C dL_law_986  ?_
                      refine q_ialdN C (k := 69) (n := 18) ⟨by decide, by decide, by decide⟩ (by omega) (by decide) dL_law_987 ?_
                      refine q_stk (st' := [.int (nI (gp lo_844)), .int (V 72 ((8 * wh) + c9)), .int (nI ((8 * wh) + c9)), .ref (σ.2.1 72)]) (congrArg (fun z => Value.int z :: [.int (V 72 ((8 * wh) + c9)), .int (nI ((8 * wh) + c9)), .ref (σ.2.1 72)]) ((congrFun (z_sub72_off _ _ _ _ (by decide)) _).trans (hrel.2.2.2.1.2.2.2 lo_844 hlo_844).1)) ?_
                      refine q_iload C dL_law_988 0 rfl ?_
                      refine q_callSi C (As := [.int (nI (gp lo_844)), .int (nI c9)]) (rest := [.int (V 72 ((8 * wh) + c9)), .int (nI ((8 * wh) + c9)), .ref (σ.2.1 72)]) (kL_needs l σ (z_sub72 V wh (fun j => nI (gneed (gp lo_844) j)) c9) G (g := gp lo_844) (hrel.2.2.2.1.2.2.2 lo_844 hlo_844).2.1 (col := c9) (by omega)) 2 gL_law_L_needs rfl rfl rfl (by decide +kernel) ⟨Nat.le_of_ble_eq_true rfl, Nat.le_of_ble_eq_true rfl⟩ dL_law_990 rfl (Nat.le_of_ble_eq_true rfl) ⟨by show _ ≤ 658728; omega, by show _ ≤ 7125285; omega⟩ (fun r_990 V_8 G_9 hq_990 => ?_)
                      obtain ⟨rfl, rfl, rfl⟩ := hq_990
                      refine q_isub C dL_law_993 ?_
                      refine q_iastN C (k := 72) (n := 64) ⟨by decide, by decide, by decide⟩ (by omega) (by decide) dL_law_994 ?_
                      refine q_VG (V' := z_sub72 V wh (fun j => nI (gneed (gp lo_844) j)) (c9 + 1)) (G' := G) (by exact z_sub72_s _ _ _ _) rfl ?_
                      refine q_iincN C [(19, .int (nI (c9 + 1))), (0, .ref b), (1, .ref (σ.2.1 0)), (2, .ref (σ.2.1 69)), (3, .ref (σ.2.1 70)), (4, .ref (σ.2.1 71)), (5, .ref (σ.2.1 72)), (6, .ref (σ.2.1 73)), (7, .ref (σ.2.1 74)), (8, .ref (σ.2.1 19)), (9, .ref (σ.2.1 18)), (10, .int (nI t)), (12, .int y), (14, .int (nI wh)), (15, .int (nI col)), (16, .int (nI lo_844)), (17, .int (nI k))] dL_law_995 0 rfl (by decide) rfl ?_
                      refine q_goto C 963 dL_law_998 (by decide) ?_
                      refine q_sub (lv' := [(19, .int (nI (c9 + 1))), (0, .ref b), (1, .ref (σ.2.1 0)), (2, .ref (σ.2.1 69)), (3, .ref (σ.2.1 70)), (4, .ref (σ.2.1 71)), (5, .ref (σ.2.1 72)), (6, .ref (σ.2.1 73)), (7, .ref (σ.2.1 74)), (8, .ref (σ.2.1 19)), (9, .ref (σ.2.1 18)), (10, .int (nI t)), (12, .int y), (14, .int (nI wh)), (15, .int (nI col)), (16, .int (nI lo_844)), (17, .int (nI k))]) [0, 1, 2, 3, 4, 5, 6, 7, 8, 9, 10, 11, 12, 13, 14, 15, 16] rfl ?_
                      exact ihL_5 (c9 + 1) (by omega) (by omega)
                refine q_sub (lv' := [(19, .int (nI 0)), (0, .ref b), (1, .ref (σ.2.1 0)), (2, .ref (σ.2.1 69)), (3, .ref (σ.2.1 70)), (4, .ref (σ.2.1 71)), (5, .ref (σ.2.1 72)), (6, .ref (σ.2.1 73)), (7, .ref (σ.2.1 74)), (8, .ref (σ.2.1 19)), (9, .ref (σ.2.1 18)), (10, .int (nI t)), (12, .int y), (14, .int (nI wh)), (15, .int (nI col)), (16, .int (nI lo_844)), (17, .int (nI k))]) [0, 2, 3, 4, 5, 6, 7, 8, 9, 10, 11, 12, 13, 14, 15, 16, 17] rfl ?_
                refine q_VG (V' := z_sub72 V wh (fun j => nI (gneed (gp lo_844) j)) 0) (G' := G) ((z_sub72_0 V wh (fun j => nI (gneed (gp lo_844) j))).symm) rfl ?_
                exact L_5 _ 0 (Nat.zero_le _) (Nat.lt_succ_self _)
              · skip
                refine q_goto C 1620 dL_law_957 (by decide) ?_
                refine q_sub (lv' := [(10, .int (nI t)), (0, .ref b), (1, .ref (σ.2.1 0)), (2, .ref (σ.2.1 69)), (3, .ref (σ.2.1 70)), (4, .ref (σ.2.1 71)), (5, .ref (σ.2.1 72)), (6, .ref (σ.2.1 73)), (7, .ref (σ.2.1 74)), (8, .ref (σ.2.1 19)), (9, .ref (σ.2.1 18))]) [12, 2, 3, 4, 5, 6, 7, 8, 9, 10, 11] rfl ?_
                exact kk _ _ _ _ _ _ _ _ _ (zRel_mono hrel (by omega)) (by omega) (by omega)
            · skip
              refine q_aload_n C dL_law_934 rfl 3 rfl ?_
              refine q_iconst C (nI 0) dL_law_935 (by decide) ?_
              refine q_iload C dL_law_936 14 rfl ?_
              refine q_iload C dL_law_938 16 rfl ?_
              refine q_iconst C (nI 0) dL_law_940 (by decide) ?_
              refine q_callWi C (As := [.ref (σ.2.1 0), .int (nI 0), .int (nI wh), .int (nI lo_844), .int (nI 0)]) (rest := []) (zM_noWeave l σ V G hlf hrel.2.2.2.1 hrel.2.2.2.2.1 hwh hlo_844 (fun z => c_931 (hP.mpr (fun c1 hc1 => z c1 (by omega)))) (nI 0)) 5 gL_law_L_refused rfl rfl rfl (by decide +kernel) ⟨Nat.le_of_ble_eq_true rfl, Nat.le_of_ble_eq_true rfl⟩ dL_law_941 rfl (Nat.le_of_ble_eq_true rfl) ⟨by show _ ≤ 658728; omega, by show _ ≤ 7125285; omega⟩ (fun r_941 V_10 G_11 hq_941 => ?_)
              obtain ⟨rfl, rfl, rfl⟩ := hq_941
              refine q_iconst C (nI 3) dL_law_944 (by decide) ?_
              refine q_icmp_eqN C 1620 dL_law_945 (by decide) (by omega) (by omega) (fun _ => ?_) (fun c_945 => absurd c_945 (by omega))
              refine q_sub (lv' := [(10, .int (nI t)), (0, .ref b), (1, .ref (σ.2.1 0)), (2, .ref (σ.2.1 69)), (3, .ref (σ.2.1 70)), (4, .ref (σ.2.1 71)), (5, .ref (σ.2.1 72)), (6, .ref (σ.2.1 73)), (7, .ref (σ.2.1 74)), (8, .ref (σ.2.1 19)), (9, .ref (σ.2.1 18))]) [12, 2, 3, 4, 5, 6, 7, 8, 9, 10, 11] rfl ?_
              exact kk _ _ _ _ _ _ _ _ _ (zRel_mono hrel (by omega)) (by omega) (by omega)
          · skip
            refine q_iload C dL_law_888 0 rfl ?_
            have J_12 : ∀ (Q9 : Prop) (hQ9 : Q9 ↔ nI (gneed (gp lo_844) c8) ≤ V (20 + wh) c8), q_W σ p l e room_1 s m #[Value.ref b] below meth c Q 21 cells slots V G [(0, .ref b), (1, .ref (σ.2.1 0)), (2, .ref (σ.2.1 69)), (3, .ref (σ.2.1 70)), (4, .ref (σ.2.1 71)), (5, .ref (σ.2.1 72)), (6, .ref (σ.2.1 73)), (7, .ref (σ.2.1 74)), (8, .ref (σ.2.1 19)), (9, .ref (σ.2.1 18)), (10, .int (nI t)), (12, .int y), (14, .int (nI wh)), (15, .int (nI col)), (16, .int (nI lo_844)), (17, .int (nI k)), (18, .int (q_w01 P)), (19, .int (nI c8))] 920 [.int (q_w01 Q9), .int (q_w01 P)] := by
              intro Q9 hQ9
              refine q_iandW C dL_law_920 ?_
              refine q_istore C [(18, .int (q_w01 (P ∧ Q9))), (0, .ref b), (1, .ref (σ.2.1 0)), (2, .ref (σ.2.1 69)), (3, .ref (σ.2.1 70)), (4, .ref (σ.2.1 71)), (5, .ref (σ.2.1 72)), (6, .ref (σ.2.1 73)), (7, .ref (σ.2.1 74)), (8, .ref (σ.2.1 19)), (9, .ref (σ.2.1 18)), (10, .int (nI t)), (12, .int y), (14, .int (nI wh)), (15, .int (nI col)), (16, .int (nI lo_844)), (17, .int (nI k)), (19, .int (nI c8))] dL_law_921 (by decide) rfl ?_
              refine q_iincN C [(19, .int (nI (c8 + 1))), (18, .int (q_w01 (P ∧ Q9))), (0, .ref b), (1, .ref (σ.2.1 0)), (2, .ref (σ.2.1 69)), (3, .ref (σ.2.1 70)), (4, .ref (σ.2.1 71)), (5, .ref (σ.2.1 72)), (6, .ref (σ.2.1 73)), (7, .ref (σ.2.1 74)), (8, .ref (σ.2.1 19)), (9, .ref (σ.2.1 18)), (10, .int (nI t)), (12, .int y), (14, .int (nI wh)), (15, .int (nI col)), (16, .int (nI lo_844)), (17, .int (nI k))] dL_law_923 17 rfl (by decide) rfl ?_
              refine q_goto C 881 dL_law_926 (by decide) ?_
              refine q_sub (lv' := [(18, .int (q_w01 (P ∧ Q9))), (19, .int (nI (c8 + 1))), (0, .ref b), (1, .ref (σ.2.1 0)), (2, .ref (σ.2.1 69)), (3, .ref (σ.2.1 70)), (4, .ref (σ.2.1 71)), (5, .ref (σ.2.1 72)), (6, .ref (σ.2.1 73)), (7, .ref (σ.2.1 74)), (8, .ref (σ.2.1 19)), (9, .ref (σ.2.1 18)), (10, .int (nI t)), (12, .int y), (14, .int (nI wh)), (15, .int (nI col)), (16, .int (nI lo_844)), (17, .int (nI k))]) [1, 0, 2, 3, 4, 5, 6, 7, 8, 9, 10, 11, 12, 13, 14, 15, 16, 17] rfl ?_
              exact ihL_4 (c8 + 1) _ (by omega) (z_all_s hP hQ9) (by omega)
            refine q_aload C dL_law_890 7 rfl ?_
            refine q_bipush C (nI 8) dL_law_892 (by decide) ?_
            refine q_iload C dL_law_894 14 rfl ?_
            refine q_imulN C dL_law_896  ?_
            refine q_iload C dL_law_897 1 rfl ?_
            refine q_iaddN C dL_law_899  ?_
            refine q_ialdN C (k := 72) (n := 64) ⟨by decide, by decide, by decide⟩ (by omega) (by decide) dL_law_900 ?_
            refine q_aload_n C dL_law_901 rfl 4 rfl ?_
            refine q_iconst C (nI 3) dL_law_902 (by decide) ?_
            refine q_iload C dL_law_903 16 rfl ?_
            refine q_imulN C dL_law_905  ?_
            refine q_ialdN C (k := 69) (n := 18) ⟨by decide, by decide, by decide⟩ (by omega) (by decide) dL_law_906 ?_
            refine q_stk (st' := [.int (nI (gp lo_844)), .int (V 72 ((8 * wh) + c8)), .int (q_w01 P)]) (congrArg (fun z => Value.int z :: [.int (V 72 ((8 * wh) + c8)), .int (q_w01 P)]) ((hrel.2.2.2.1.2.2.2 lo_844 hlo_844).1)) ?_
            refine q_iload C dL_law_907 1 rfl ?_
            refine q_callSi C (As := [.int (nI (gp lo_844)), .int (nI c8)]) (rest := [.int (V 72 ((8 * wh) + c8)), .int (q_w01 P)]) (kL_needs l σ V G (g := gp lo_844) (hrel.2.2.2.1.2.2.2 lo_844 hlo_844).2.1 (col := c8) (by omega)) 2 gL_law_L_needs rfl rfl rfl (by decide +kernel) ⟨Nat.le_of_ble_eq_true rfl, Nat.le_of_ble_eq_true rfl⟩ dL_law_909 rfl (Nat.le_of_ble_eq_true rfl) ⟨by show _ ≤ 658728; omega, by show _ ≤ 7125285; omega⟩ (fun r_909 V_13 G_14 hq_909 => ?_)
            obtain ⟨rfl, rfl, rfl⟩ := hq_909
            refine q_icmp_lt C 919 dL_law_912 (by decide) (fun c_912 => ?_) (fun c_912 => ?_)
            · skip
              refine q_iconst C (nI 0) dL_law_919 (by decide) ?_
              refine q_sub (lv' := [(0, .ref b), (1, .ref (σ.2.1 0)), (2, .ref (σ.2.1 69)), (3, .ref (σ.2.1 70)), (4, .ref (σ.2.1 71)), (5, .ref (σ.2.1 72)), (6, .ref (σ.2.1 73)), (7, .ref (σ.2.1 74)), (8, .ref (σ.2.1 19)), (9, .ref (σ.2.1 18)), (10, .int (nI t)), (12, .int y), (14, .int (nI wh)), (15, .int (nI col)), (16, .int (nI lo_844)), (17, .int (nI k)), (18, .int (q_w01 P)), (19, .int (nI c8))]) [2, 3, 4, 5, 6, 7, 8, 9, 10, 11, 12, 13, 14, 15, 16, 17, 0, 1] rfl ?_
              refine q_stk (st' := [.int (q_w01 False), .int (q_w01 P)]) (by rw [q_w01_n (fun z : False => z)] <;> rfl) ?_
              exact J_12 _ ⟨fun z => z.elim, fun z => by rw [← (hrel.1 wh c8 (by omega) (by omega)).1] at z; exact absurd c_912 (Int32.not_lt.mpr z)⟩
            · skip
              refine q_iconst C (nI 1) dL_law_915 (by decide) ?_
              refine q_goto C 920 dL_law_916 (by decide) ?_
              refine q_sub (lv' := [(0, .ref b), (1, .ref (σ.2.1 0)), (2, .ref (σ.2.1 69)), (3, .ref (σ.2.1 70)), (4, .ref (σ.2.1 71)), (5, .ref (σ.2.1 72)), (6, .ref (σ.2.1 73)), (7, .ref (σ.2.1 74)), (8, .ref (σ.2.1 19)), (9, .ref (σ.2.1 18)), (10, .int (nI t)), (12, .int y), (14, .int (nI wh)), (15, .int (nI col)), (16, .int (nI lo_844)), (17, .int (nI k)), (18, .int (q_w01 P)), (19, .int (nI c8))]) [2, 3, 4, 5, 6, 7, 8, 9, 10, 11, 12, 13, 14, 15, 16, 17, 0, 1] rfl ?_
              refine q_stk (st' := [.int (q_w01 True), .int (q_w01 P)]) (by rw [q_w01_y trivial] <;> rfl) ?_
              exact J_12 _ ⟨fun _ => by rw [← (hrel.1 wh c8 (by omega) (by omega)).1]; exact Int32.not_lt.mp c_912, fun _ => trivial⟩
      refine q_sub (lv' := [(18, .int (q_w01 True)), (19, .int (nI 0)), (0, .ref b), (1, .ref (σ.2.1 0)), (2, .ref (σ.2.1 69)), (3, .ref (σ.2.1 70)), (4, .ref (σ.2.1 71)), (5, .ref (σ.2.1 72)), (6, .ref (σ.2.1 73)), (7, .ref (σ.2.1 74)), (8, .ref (σ.2.1 19)), (9, .ref (σ.2.1 18)), (10, .int (nI t)), (12, .int y), (14, .int (nI wh)), (15, .int (nI col)), (16, .int (nI lo_844)), (17, .int (nI k))]) [2, 0, 3, 4, 5, 6, 7, 8, 9, 10, 11, 12, 13, 14, 15, 16, 17, 1] rfl ?_
      exact L_4 _ 0 True (Nat.zero_le _) ⟨fun _ c1 h => absurd h (Nat.not_lt_zero c1), fun _ => trivial⟩ (Nat.lt_succ_self _)
    refine q_iconst C (nI 1) dL_law_852 (by decide) ?_
    refine q_stk (st' := [.int (q_w01 True)]) (by rw [q_w01_y trivial] <;> rfl) ?_
    refine q_istore C [(18, .int (q_w01 True)), (17, .int (nI 0)), (16, .int (nI lo_844)), (15, .int (nI col)), (14, .int (nI wh)), (12, .int y), (10, .int (nI t)), (0, .ref b), (1, .ref (σ.2.1 0)), (2, .ref (σ.2.1 69)), (3, .ref (σ.2.1 70)), (4, .ref (σ.2.1 71)), (5, .ref (σ.2.1 72)), (6, .ref (σ.2.1 73)), (7, .ref (σ.2.1 74)), (8, .ref (σ.2.1 19)), (9, .ref (σ.2.1 18))] dL_law_853 (by decide) rfl ?_
    have L_15 : ∀ (nL_15 : Nat) (k : Nat) (hk : k ≤ 6) (hbel : ∀ b, b < k → ¬ V 6 b = -1), 6 - k < nL_15 → q_W σ p l e room_1 s m #[Value.ref b] below meth c Q 21 cells slots V G [(17, .int (nI k)), (0, .ref b), (1, .ref (σ.2.1 0)), (2, .ref (σ.2.1 69)), (3, .ref (σ.2.1 70)), (4, .ref (σ.2.1 71)), (5, .ref (σ.2.1 72)), (6, .ref (σ.2.1 73)), (7, .ref (σ.2.1 74)), (8, .ref (σ.2.1 19)), (9, .ref (σ.2.1 18)), (10, .int (nI t)), (12, .int y), (14, .int (nI wh)), (15, .int (nI col)), (16, .int (nI lo_844)), (18, .int (q_w01 True))] 855 [] := by
      intro nL_15
      induction nL_15 with
      | zero => intro k hk hbel h; exact absurd h (Nat.not_lt_zero _)
      | succ nL_15 ihL_15 =>
        intro k hk hbel hmL_15
        refine q_iload C dL_law_855 0 rfl ?_
        refine q_bipush C (nI 6) dL_law_857 (by decide) ?_
        refine q_icmp_geN C 878 dL_law_859 (by decide) (by omega) (by omega) (fun c_859 => ?_) (fun c_859 => ?_)
        · skip
          refine q_sub (lv' := [(17, .int (nI k)), (18, .int (q_w01 True)), (0, .ref b), (1, .ref (σ.2.1 0)), (2, .ref (σ.2.1 69)), (3, .ref (σ.2.1 70)), (4, .ref (σ.2.1 71)), (5, .ref (σ.2.1 72)), (6, .ref (σ.2.1 73)), (7, .ref (σ.2.1 74)), (8, .ref (σ.2.1 19)), (9, .ref (σ.2.1 18)), (10, .int (nI t)), (12, .int y), (14, .int (nI wh)), (15, .int (nI col)), (16, .int (nI lo_844))]) [0, 16, 1, 2, 3, 4, 5, 6, 7, 8, 9, 10, 11, 12, 13, 14, 15] rfl ?_
          exact J_3 k hk hbel (by first | exact fun z => absurd z (by omega) | exact fun _ => z_bn hn6 hrel.2.2.2.2.2.2.1 (by omega) (Int32.not_le.mpr c_869))
        · skip
          refine q_aload C dL_law_862 5 rfl ?_
          refine q_iconst C (nI 2) dL_law_864 (by decide) ?_
          refine q_iload C dL_law_865 0 rfl ?_
          refine q_imulN C dL_law_867  ?_
          refine q_ialdN C (k := 71) (n := 12) ⟨by decide, by decide, by decide⟩ (by omega) (by decide) dL_law_868 ?_
          refine q_if_lt C 878 dL_law_869 (by decide) (fun c_869 => ?_) (fun c_869 => ?_)
          · skip
            refine q_sub (lv' := [(17, .int (nI k)), (18, .int (q_w01 True)), (0, .ref b), (1, .ref (σ.2.1 0)), (2, .ref (σ.2.1 69)), (3, .ref (σ.2.1 70)), (4, .ref (σ.2.1 71)), (5, .ref (σ.2.1 72)), (6, .ref (σ.2.1 73)), (7, .ref (σ.2.1 74)), (8, .ref (σ.2.1 19)), (9, .ref (σ.2.1 18)), (10, .int (nI t)), (12, .int y), (14, .int (nI wh)), (15, .int (nI col)), (16, .int (nI lo_844))]) [0, 16, 1, 2, 3, 4, 5, 6, 7, 8, 9, 10, 11, 12, 13, 14, 15] rfl ?_
            exact J_3 k hk hbel (by first | exact fun z => absurd z (by omega) | exact fun _ => z_bn hn6 hrel.2.2.2.2.2.2.1 (by omega) (Int32.not_le.mpr c_869))
          · skip
            refine q_iincN C [(17, .int (nI (k + 1))), (0, .ref b), (1, .ref (σ.2.1 0)), (2, .ref (σ.2.1 69)), (3, .ref (σ.2.1 70)), (4, .ref (σ.2.1 71)), (5, .ref (σ.2.1 72)), (6, .ref (σ.2.1 73)), (7, .ref (σ.2.1 74)), (8, .ref (σ.2.1 19)), (9, .ref (σ.2.1 18)), (10, .int (nI t)), (12, .int y), (14, .int (nI wh)), (15, .int (nI col)), (16, .int (nI lo_844)), (18, .int (q_w01 True))] dL_law_872 0 rfl (by decide) rfl ?_
            refine q_goto C 855 dL_law_875 (by decide) ?_
            refine q_sub (lv' := [(17, .int (nI (k + 1))), (0, .ref b), (1, .ref (σ.2.1 0)), (2, .ref (σ.2.1 69)), (3, .ref (σ.2.1 70)), (4, .ref (σ.2.1 71)), (5, .ref (σ.2.1 72)), (6, .ref (σ.2.1 73)), (7, .ref (σ.2.1 74)), (8, .ref (σ.2.1 19)), (9, .ref (σ.2.1 18)), (10, .int (nI t)), (12, .int y), (14, .int (nI wh)), (15, .int (nI col)), (16, .int (nI lo_844)), (18, .int (q_w01 True))]) [0, 1, 2, 3, 4, 5, 6, 7, 8, 9, 10, 11, 12, 13, 14, 15, 16] rfl ?_
            exact ihL_15 (k + 1) (by omega) (lt_s hbel (z_nm1 hrel.2.2.2.2.2.2.1 (by omega) c_869)) (by omega)
    refine q_sub (lv' := [(17, .int (nI 0)), (0, .ref b), (1, .ref (σ.2.1 0)), (2, .ref (σ.2.1 69)), (3, .ref (σ.2.1 70)), (4, .ref (σ.2.1 71)), (5, .ref (σ.2.1 72)), (6, .ref (σ.2.1 73)), (7, .ref (σ.2.1 74)), (8, .ref (σ.2.1 19)), (9, .ref (σ.2.1 18)), (10, .int (nI t)), (12, .int y), (14, .int (nI wh)), (15, .int (nI col)), (16, .int (nI lo_844)), (18, .int (q_w01 True))]) [1, 7, 8, 9, 10, 11, 12, 13, 14, 15, 16, 6, 5, 4, 3, 2, 0] rfl ?_
    exact L_15 _ 0 (Nat.zero_le _) lt_0 (Nat.lt_succ_self _)
  · skip
    refine q_goto C 1620 dL_law_835 (by decide) ?_
    refine q_sub (lv' := [(10, .int (nI t)), (0, .ref b), (1, .ref (σ.2.1 0)), (2, .ref (σ.2.1 69)), (3, .ref (σ.2.1 70)), (4, .ref (σ.2.1 71)), (5, .ref (σ.2.1 72)), (6, .ref (σ.2.1 73)), (7, .ref (σ.2.1 74)), (8, .ref (σ.2.1 19)), (9, .ref (σ.2.1 18))]) [3, 4, 5, 6, 7, 8, 9, 10, 11, 12, 13] rfl ?_
    exact kk _ _ _ _ _ _ _ _ _ (zRel_mono hrel (by omega)) (by omega) (by omega)
