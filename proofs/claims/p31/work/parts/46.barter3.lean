def q_boff (V U : q_V) : Prop := ∀ a j, a ≠ 15 → a ≠ 16 → a ≠ 17 → ¬ (a = 9 ∧ j = 5) → U a j = V a j
theorem q_boff_rfl (V : q_V) : q_boff V V := fun _ _ _ _ _ _ => rfl
theorem q_boff_tr {V U W : q_V} (h1 : q_boff V U) (h2 : q_xoff U W) : q_boff V W := fun a j x y z w => (h2 a j y z w).trans (h1 a j x y z w)
theorem q_boff_0 (V : q_V) (n : Nat) (x : Int32) : q_boff V (q_up (q_rdy V n) 9 5 x) := fun a j x y z w => (q_up_ne _ _ w).trans (congrFun (q_rdy_off V n x) j)
/-- the hands behind the first n of a chain -/
def q_exch (V : q_V) (b : List Nat) : Nat → q_V
  | 0 => V
  | k + 1 => q_up (q_up (q_exch V b k) (20 + b.getD k 0) (q_n (V 14 (b.getD k 0))) (q_exch V b k (20 + b.getD k 0) (q_n (V 14 (b.getD k 0))) + nI 1)) (20 + b.getD (if k + 1 < b.length then k + 1 else 0) 0) (q_n (V 14 (b.getD k 0)))
      (q_up (q_exch V b k) (20 + b.getD k 0) (q_n (V 14 (b.getD k 0))) (q_exch V b k (20 + b.getD k 0) (q_n (V 14 (b.getD k 0))) + nI 1) (20 + b.getD (if k + 1 < b.length then k + 1 else 0) 0) (q_n (V 14 (b.getD k 0))) - nI 1)
theorem q_exch_off (V : q_V) {b : List Nat} (h7 : ∀ i, i < b.length → b.getD i 0 < 7) : ∀ (n : Nat) {a : Nat}, n ≤ b.length → (a < 20 ∨ 27 ≤ a) → q_exch V b n a = V a
  | 0, _, _, _ => rfl
  | k + 1, a, hn, h => by
    have h1 := h7 k (by omega)
    have h2 := h7 (if k + 1 < b.length then k + 1 else 0) (by split <;> omega)
    show q_up (q_up _ _ _ _) _ _ _ a = V a
    rw [q_up_off _ _ (by omega), q_up_off _ _ (by omega)]
    exact q_exch_off V h7 k (by omega) h
theorem q_exch_step {V : q_V} {b : List Nat} {k c n : Nat} (h1 : V 14 (b.getD k 0) = nI c) (hc : c < 8) (hn : n = if k + 1 < b.length then k + 1 else 0) :
    q_up (q_up (q_exch V b k) (20 + b.getD k 0) c (q_exch V b k (20 + b.getD k 0) c + nI 1)) (20 + b.getD n 0) c (q_up (q_exch V b k) (20 + b.getD k 0) c (q_exch V b k (20 + b.getD k 0) c + nI 1) (20 + b.getD n 0) c - nI 1) = q_exch V b (k + 1) := by
  have e1 : q_n (V 14 (b.getD k 0)) = c := by rw [h1]; exact q_n_nI (by omega)
  show _ = q_up (q_up _ _ _ _) _ _ _
  rw [e1, ← hn]
abbrev rX0_findBest : Room := { frames := 9, cells := 0, slots := 0, locals := 368 }
theorem iX0_findBest_X0 : ∀ w ∈ u_ws RX0 TX0 6, w ∈ wsX0_findBest := by decide +kernel
set_option maxHeartbeats 4000000 in
set_option maxRecDepth 100000 in
/-- Barter.findBest -/
theorem kX0_findBest (l : Launch) (σ : q_E) (V : q_V) (G : q_G) (hw : ∀ a, a < 7 → V 13 a = -1 ∨ ∃ c, c < 8 ∧ V 13 a = nI c) : q_Mv l yX0_findBest wsX0_findBest rX0_findBest σ [.ref (σ.2.1 9), .ref (σ.2.1 1)] V G (fun V' G' => q_boff V V' ∧ V' 9 5 = nI (q_best (q_crd V) (q_cgt V)).length ∧ (∀ i, i < (q_best (q_crd V) (q_cgt V)).length → V' 17 i = nI ((q_best (q_crd V) (q_cgt V)).getD i 0)) ∧ G = G') 0 0 := by
  refine q_Mv_of (cc := cX0_findBest) (maxL := 3) (lv := [(0, .ref (σ.2.1 9)), (1, .ref (σ.2.1 1))]) (by decide +kernel) rfl (Nat.le_of_ble_eq_true rfl) rfl ?_
  intro p e s m args below meth c Q C hR
  refine q_aload_n C dX0_findBest_0 rfl 0 rfl ?_
  refine q_aload_n C dX0_findBest_1 rfl 1 rfl ?_
  refine q_callVv C (As := [.ref (σ.2.1 1)]) (rest := []) (k := 9) (by omega) q_enBA rfl rfl (kX0_markReady l σ V G hw) 1 gX0_findBest_X0_markReady rfl rfl rfl (by decide +kernel) ⟨Nat.le_of_ble_eq_true rfl, Nat.le_of_ble_eq_true rfl⟩ dX0_findBest_2 rfl (Nat.le_of_ble_eq_true rfl) ⟨Nat.le_of_ble_eq_true rfl, Nat.le_of_ble_eq_true rfl⟩ (fun V_1 G_2 hq_2 => ?_)
  obtain ⟨rfl, rfl⟩ := hq_2
  refine q_aload_n C dX0_findBest_5 rfl 0 rfl ?_
  refine q_iconst C (nI 0) dX0_findBest_6 (by decide) ?_
  refine q_put C (k := 9) (fi := 5) tyX0 tyX0_ok nmX0 (by omega) q_enBA rfl iX0_findBest_X0 (by decide) (by decide +kernel) rfl rfl (by decide +kernel) (Nat.le_of_ble_eq_true rfl) (q_enBA |>.trans (by simp [q_up])) dX0_findBest_7 ?_
  refine q_iconst C (nI 0) dX0_findBest_10 (by decide) ?_
  refine q_istore_n C [(2, .int (nI 0)), (0, .ref (σ.2.1 9)), (1, .ref (σ.2.1 1))] dX0_findBest_11 rfl (by decide) rfl ?_
  have L_3 : ∀ (nL_3 : Nat) (U : q_V) (j : Nat) (b' : List Nat) (hU : q_boff V U) (hxt : q_xt U (q_crd V) (q_cgt V) [] b') (hb7' : b'.length ≤ 7) (hj : j ≤ 7) (hch : (q_best (q_crd V) (q_cgt V)) = q_chs (q_stp (q_crd V) (q_cgt V) 6 []) (7 - j) j b'), 7 - j < nL_3 → q_W σ p l e rX0_findBest s m args below meth c Q 3 0 0 U G [(2, .int (nI j)), (0, .ref (σ.2.1 9)), (1, .ref (σ.2.1 1))] 12 [] := by
    intro nL_3
    induction nL_3 with
    | zero => intro U j b' hU hxt hb7' hj hch h; exact absurd h (Nat.not_lt_zero _)
    | succ nL_3 ihL_3 =>
      intro U j b' hU hxt hb7' hj hch hmL_3
      refine q_iload_n C dX0_findBest_12 rfl 0 rfl ?_
      refine q_bipush C (nI 7) dX0_findBest_13 (by decide) ?_
      refine q_icmp_geN C 45 dX0_findBest_15 (by decide) (by omega) (by omega) (fun c_15 => ?_) (fun c_15 => ?_)
      · skip
        refine hR _ _ _ _ _ _ ?_ (Nat.le_of_ble_eq_true rfl) (Nat.le_of_ble_eq_true rfl) dX0_findBest_45
        obtain rfl : j = 7 := by omega
        have hch2 : (q_best (q_crd V) (q_cgt V)) = b' := hch
        rw [hch2]
        exact ⟨hU, hxt.2.2.2.1, hxt.2.2.2.2, rfl⟩
      · skip
        refine q_aload_n C dX0_findBest_18 rfl 1 rfl ?_
        refine q_get C (k := 9) (fi := 2) (.ref (σ.2.1 15)) (by omega) q_enBA rfl iX0_findBest_X0 (by decide) (by decide +kernel) rfl rfl dX0_findBest_19 ?_
        refine q_iload_n C dX0_findBest_22 rfl 0 rfl ?_
        refine q_zaldN C (by omega) dX0_findBest_23 ?_
        refine q_if_eq C 39 dX0_findBest_24 (by decide) (fun c_24 => ?_) (fun c_24 => ?_)
        · skip
          have hrdj : ¬ q_crd V j := fun z => by rw [hxt.2.1 j (by omega), q_w01_y z] at c_24; exact absurd c_24 (by decide)
          refine q_iincN C [(2, .int (nI (j + 1))), (0, .ref (σ.2.1 9)), (1, .ref (σ.2.1 1))] dX0_findBest_39 0 rfl (by decide) rfl ?_
          refine q_goto C 12 dX0_findBest_42 (by decide) ?_
          refine q_sub (lv' := [(2, .int (nI (j + 1))), (0, .ref (σ.2.1 9)), (1, .ref (σ.2.1 1))]) [0, 1, 2] rfl ?_
          exact ihL_3 _ (j + 1) _ hU hxt hb7' (by omega) ((hch.trans (q_chs_step (by omega))).trans (congrArg (q_chs _ _ _) (q_stp_n (fun z => hrdj z.1)))) (by omega)
        · skip
          have hrdj : q_crd V j := Classical.byContradiction fun z => c_24 (by rw [hxt.2.1 j (by omega), q_w01_n z])
          refine q_aload_n C dX0_findBest_27 rfl 1 rfl ?_
          refine q_get C (k := 9) (fi := 3) (.ref (σ.2.1 16)) (by omega) q_enBA rfl iX0_findBest_X0 (by decide) (by decide +kernel) rfl rfl dX0_findBest_28 ?_
          refine q_iconst C (nI 0) dX0_findBest_31 (by decide) ?_
          refine q_iload_n C dX0_findBest_32 rfl 0 rfl ?_
          refine q_iastN C (k := 16) (n := 7) ⟨by decide, by decide, by decide⟩ (by omega) (by decide) dX0_findBest_33 ?_
          refine q_aload_n C dX0_findBest_34 rfl 1 rfl ?_
          refine q_iconst C (nI 1) dX0_findBest_35 (by decide) ?_
          refine q_callSv C (As := [.ref (σ.2.1 9), .int (nI 1)]) (rest := []) (kX0_extend_6 l σ (q_up U 16 0 (nI j)) G (r := [j]) (b := b') rfl (q_app_lt (r := []) (fun i hi => absurd hi (Nat.not_lt_zero i)) (by omega)) hb7' (q_xt_app (r := []) (n := 0) rfl hxt j)) 2 gX0_findBest_X0_extend rfl rfl rfl (by decide +kernel) ⟨Nat.le_of_ble_eq_true rfl, Nat.le_of_ble_eq_true rfl⟩ dX0_findBest_36 rfl (Nat.le_of_ble_eq_true rfl) ⟨Nat.le_of_ble_eq_true rfl, Nat.le_of_ble_eq_true rfl⟩ (fun V_4 G_5 hq_36 => ?_)
          obtain ⟨hU2_36, hx2_36, rfl⟩ := hq_36
          refine q_iincN C [(2, .int (nI (j + 1))), (0, .ref (σ.2.1 9)), (1, .ref (σ.2.1 1))] dX0_findBest_39 0 rfl (by decide) rfl ?_
          refine q_goto C 12 dX0_findBest_42 (by decide) ?_
          refine q_sub (lv' := [(2, .int (nI (j + 1))), (0, .ref (σ.2.1 9)), (1, .ref (σ.2.1 1))]) [0, 1, 2] rfl ?_
          exact ihL_3 _ (j + 1) _ (q_boff_tr hU (q_xoff_tr (q_xoff_app U _ _) hU2_36)) (q_xt_pre (r := []) hx2_36) (q_ch_len _ _ _ _ _ (Nat.le_refl 7) (q_upb_len hb7' (show 1 ≤ 7 from (by decide)))) (by omega) ((hch.trans (q_chs_step (by omega))).trans (congrArg (q_chs _ _ _) (q_stp_y ⟨hrdj, Or.inl rfl⟩))) (by omega)
  refine q_sub (lv' := [(2, .int (nI 0)), (0, .ref (σ.2.1 9)), (1, .ref (σ.2.1 1))]) [0, 1, 2] rfl ?_
  exact L_3 _ _ 0 [] (q_boff_0 V 7 _) ⟨fun i hi => absurd hi (Nat.not_lt_zero i), fun a ha => q_rdy_at V ha, rfl, rfl, fun i hi => absurd hi (Nat.not_lt_zero i)⟩ (by decide) (by omega) rfl (Nat.lt_succ_self _)
abbrev rX0_exchange : Room := { frames := 1, cells := 0, slots := 0, locals := 12 }
theorem iX0_exchange_X0 : ∀ w ∈ u_ws RX0 TX0 6, w ∈ wsX0_exchange := by decide +kernel
set_option maxHeartbeats 4000000 in
set_option maxRecDepth 100000 in
/-- Barter.exchange -/
theorem kX0_exchange (l : Launch) (σ : q_E) (V : q_V) (G : q_G) {b : List Nat} (hbl : V 9 5 = nI b.length) (hb8 : b.length ≤ 7) (hbi : ∀ i, i < b.length → V 17 i = nI (b.getD i 0)) (hb7 : ∀ i, i < b.length → b.getD i 0 < 7) (hwant : ∀ i, i < b.length → ∃ d, d < 8 ∧ V 14 (b.getD i 0) = nI d) : q_Mv l yX0_exchange wsX0_exchange rX0_exchange σ [.ref (σ.2.1 9), .ref (σ.2.1 1)] V G (fun V' G' => q_exch V b b.length = V' ∧ G = G') 0 0 := by
  refine q_Mv_of (cc := cX0_exchange) (maxL := 5) (lv := [(0, .ref (σ.2.1 9)), (1, .ref (σ.2.1 1))]) (by decide +kernel) rfl (Nat.le_of_ble_eq_true rfl) rfl ?_
  intro p e s m args below meth c Q C hR
  refine q_iconst C (nI 0) dX0_exchange_0 (by decide) ?_
  refine q_istore_n C [(2, .int (nI 0)), (0, .ref (σ.2.1 9)), (1, .ref (σ.2.1 1))] dX0_exchange_1 rfl (by decide) rfl ?_
  have L_1 : ∀ (nL_1 : Nat) (j : Nat) (hj : j ≤ b.length), b.length - j < nL_1 → q_W σ p l e rX0_exchange s m args below meth c Q 5 0 0 (q_exch V b j) G [(2, .int (nI j)), (0, .ref (σ.2.1 9)), (1, .ref (σ.2.1 1))] 2 [] := by
    intro nL_1
    induction nL_1 with
    | zero => intro j hj h; exact absurd h (Nat.not_lt_zero _)
    | succ nL_1 ihL_1 =>
      intro j hj hmL_1
      refine q_iload_n C dX0_exchange_2 rfl 0 rfl ?_
      refine q_aload_n C dX0_exchange_3 rfl 1 rfl ?_
      refine q_get C (k := 9) (fi := 5) (.int (nI b.length)) (by omega) q_enBA rfl iX0_exchange_X0 (by decide) (by decide +kernel) rfl (by exact congrArg (fun z => some (Value.int z)) ((congrFun (q_exch_off V hb7 j (a := 9) (by omega) (by decide)) 5).trans hbl)) dX0_exchange_4 ?_
      refine q_icmp_geN C 76 dX0_exchange_7 (by decide) (by omega) (by omega) (fun c_7 => ?_) (fun c_7 => ?_)
      · skip
        refine hR _ _ _ _ _ _ ?_ (Nat.le_of_ble_eq_true rfl) (Nat.le_of_ble_eq_true rfl) dX0_exchange_76
        obtain rfl : j = b.length := by omega
        exact ⟨rfl, rfl⟩
      · skip
        have hbj7 := hb7 j (by omega)
        refine q_aload_n C dX0_exchange_10 rfl 1 rfl ?_
        refine q_get C (k := 9) (fi := 4) (.ref (σ.2.1 17)) (by omega) q_enBA rfl iX0_exchange_X0 (by decide) (by decide +kernel) rfl rfl dX0_exchange_11 ?_
        refine q_iload_n C dX0_exchange_14 rfl 0 rfl ?_
        refine q_ialdN C (k := 17) (n := 7) ⟨by decide, by decide, by decide⟩ (by omega) (by decide) dX0_exchange_15 ?_
        refine q_stk (st' := [.int (nI (b.getD j 0))]) (congrArg (fun z => Value.int z :: []) ((congrFun (q_exch_off V hb7 j (a := 17) (by omega) (by decide)) _).trans (hbi j (by omega)))) ?_
        refine q_istore_n C [(3, .int (nI (b.getD j 0))), (2, .int (nI j)), (0, .ref (σ.2.1 9)), (1, .ref (σ.2.1 1))] dX0_exchange_16 rfl (by decide) rfl ?_
        refine q_aload_n C dX0_exchange_17 rfl 2 rfl ?_
        refine q_get C (k := 9) (fi := 4) (.ref (σ.2.1 17)) (by omega) q_enBA rfl iX0_exchange_X0 (by decide) (by decide +kernel) rfl rfl dX0_exchange_18 ?_
        refine q_iload_n C dX0_exchange_21 rfl 1 rfl ?_
        refine q_iconst C (nI 1) dX0_exchange_22 (by decide) ?_
        refine q_iaddN C dX0_exchange_23  ?_
        refine q_aload_n C dX0_exchange_24 rfl 2 rfl ?_
        refine q_get C (k := 9) (fi := 5) (.int (nI b.length)) (by omega) q_enBA rfl iX0_exchange_X0 (by decide) (by decide +kernel) rfl (by exact congrArg (fun z => some (Value.int z)) ((congrFun (q_exch_off V hb7 j (a := 9) (by omega) (by decide)) 5).trans hbl)) dX0_exchange_25 ?_
        have J_2 : ∀ (nx9 : Nat) (hnx : nx9 = if j + 1 < b.length then j + 1 else 0), q_W σ p l e rX0_exchange s m args below meth c Q 5 0 0 (q_exch V b j) G [(0, .ref (σ.2.1 9)), (1, .ref (σ.2.1 1)), (2, .int (nI j)), (3, .int (nI (b.getD j 0)))] 38 [.int (nI nx9), .ref (σ.2.1 17)] := by
          intro nx9 hnx
          have hnx7 : nx9 < b.length := by rw [hnx]; split <;> omega
          have hbn7 := hb7 nx9 hnx7
          obtain ⟨c9, hc9, hce⟩ := hwant j (by omega)
          refine q_ialdN C (k := 17) (n := 7) ⟨by decide, by decide, by decide⟩ (by omega) (by decide) dX0_exchange_38 ?_
          refine q_stk (st' := [.int (nI (b.getD nx9 0))]) (congrArg (fun z => Value.int z :: []) ((congrFun (q_exch_off V hb7 j (a := 17) (by omega) (by decide)) _).trans (hbi nx9 hnx7))) ?_
          refine q_istore C [(4, .int (nI (b.getD nx9 0))), (0, .ref (σ.2.1 9)), (1, .ref (σ.2.1 1)), (2, .int (nI j)), (3, .int (nI (b.getD j 0)))] dX0_exchange_39 (by decide) rfl ?_
          refine q_aload_n C dX0_exchange_41 rfl 2 rfl ?_
          refine q_iload_n C dX0_exchange_42 rfl 4 rfl ?_
          refine q_aaldH C (by omega) dX0_exchange_43 ?_
          refine q_aload_n C dX0_exchange_44 rfl 1 rfl ?_
          refine q_get C (k := 9) (fi := 1) (.ref (σ.2.1 14)) (by omega) q_enBA rfl iX0_exchange_X0 (by decide) (by decide +kernel) rfl rfl dX0_exchange_45 ?_
          refine q_iload_n C dX0_exchange_48 rfl 4 rfl ?_
          refine q_ialdN C (k := 14) (n := 7) ⟨by decide, by decide, by decide⟩ (by omega) (by decide) dX0_exchange_49 ?_
          refine q_stk (st' := [.int (nI c9), .ref (σ.2.1 (20 + (b.getD j 0)))]) (congrArg (fun z => Value.int z :: [.ref (σ.2.1 (20 + (b.getD j 0)))]) ((congrFun (q_exch_off V hb7 j (a := 14) (by omega) (by decide)) _).trans hce)) ?_
          refine q_dup2 C dX0_exchange_50 rfl rfl ?_
          refine q_ialdN C (k := 20 + (b.getD j 0)) (q_isI_hand (by omega)) (by omega) (by decide) dX0_exchange_51 ?_
          refine q_iconst C (nI 1) dX0_exchange_52 (by decide) ?_
          refine q_iadd C dX0_exchange_53 ?_
          refine q_iastN C (k := 20 + (b.getD j 0)) (q_isI_hand (by omega)) (by omega) (by decide) dX0_exchange_54 ?_
          refine q_aload_n C dX0_exchange_55 rfl 2 rfl ?_
          refine q_iload C dX0_exchange_56 0 rfl ?_
          refine q_aaldH C (by omega) dX0_exchange_58 ?_
          refine q_aload_n C dX0_exchange_59 rfl 1 rfl ?_
          refine q_get C (k := 9) (fi := 1) (.ref (σ.2.1 14)) (by omega) q_enBA rfl iX0_exchange_X0 (by decide) (by decide +kernel) rfl rfl dX0_exchange_60 ?_
          refine q_iload_n C dX0_exchange_63 rfl 4 rfl ?_
          refine q_ialdN C (k := 14) (n := 7) ⟨by decide, by decide, by decide⟩ (by omega) (by decide) dX0_exchange_64 ?_
          refine q_stk (st' := [.int ((q_exch V b j) 14 (b.getD j 0)), .ref (σ.2.1 (20 + (b.getD nx9 0)))]) (congrArg (fun z => Value.int z :: [.ref (σ.2.1 (20 + (b.getD nx9 0)))]) (q_up_ne _ _ (by omega))) ?_
          refine q_stk (st' := [.int (nI c9), .ref (σ.2.1 (20 + (b.getD nx9 0)))]) (congrArg (fun z => Value.int z :: [.ref (σ.2.1 (20 + (b.getD nx9 0)))]) ((congrFun (q_exch_off V hb7 j (a := 14) (by omega) (by decide)) _).trans hce)) ?_
          refine q_dup2 C dX0_exchange_65 rfl rfl ?_
          refine q_ialdN C (k := 20 + (b.getD nx9 0)) (q_isI_hand (by omega)) (by omega) (by decide) dX0_exchange_66 ?_
          refine q_iconst C (nI 1) dX0_exchange_67 (by decide) ?_
          refine q_isub C dX0_exchange_68 ?_
          refine q_iastN C (k := 20 + (b.getD nx9 0)) (q_isI_hand (by omega)) (by omega) (by decide) dX0_exchange_69 ?_
          refine q_VG (V' := q_exch V b (j + 1)) (G' := G) (by exact q_exch_step hce hc9 hnx) rfl ?_
          refine q_iincN C [(2, .int (nI (j + 1))), (4, .int (nI (b.getD nx9 0))), (0, .ref (σ.2.1 9)), (1, .ref (σ.2.1 1)), (3, .int (nI (b.getD j 0)))] dX0_exchange_70 3 rfl (by decide) rfl ?_
          refine q_goto C 2 dX0_exchange_73 (by decide) ?_
          refine q_sub (lv' := [(2, .int (nI (j + 1))), (0, .ref (σ.2.1 9)), (1, .ref (σ.2.1 1))]) [0, 2, 3] rfl ?_
          exact ihL_1 (j + 1) (by omega) (by omega)
        refine q_icmp_geN C 37 dX0_exchange_28 (by decide) (by omega) (by omega) (fun c_28 => ?_) (fun c_28 => ?_)
        · skip
          refine q_iconst C (nI 0) dX0_exchange_37 (by decide) ?_
          refine q_sub (lv' := [(0, .ref (σ.2.1 9)), (1, .ref (σ.2.1 1)), (2, .int (nI j)), (3, .int (nI (b.getD j 0)))]) [2, 3, 1, 0] rfl ?_
          exact J_2 _ (by first | exact (if_pos (by omega)).symm | exact (if_neg (by omega)).symm)
        · skip
          refine q_iload_n C dX0_exchange_31 rfl 1 rfl ?_
          refine q_iconst C (nI 1) dX0_exchange_32 (by decide) ?_
          refine q_iaddN C dX0_exchange_33  ?_
          refine q_goto C 38 dX0_exchange_34 (by decide) ?_
          refine q_sub (lv' := [(0, .ref (σ.2.1 9)), (1, .ref (σ.2.1 1)), (2, .int (nI j)), (3, .int (nI (b.getD j 0)))]) [2, 3, 1, 0] rfl ?_
          exact J_2 _ (by first | exact (if_pos (by omega)).symm | exact (if_neg (by omega)).symm)
  refine q_sub (lv' := [(2, .int (nI 0)), (0, .ref (σ.2.1 9)), (1, .ref (σ.2.1 1))]) [0, 1, 2] rfl ?_
  refine q_VG (V' := q_exch V b 0) (G' := G) (rfl) rfl ?_
  exact L_1 _ 0 (Nat.zero_le _) (Nat.lt_succ_self _)
abbrev rX2_chain : Room := { frames := 10, cells := 0, slots := 0, locals := 390 }
theorem iX2_chain_X2 : ∀ w ∈ u_ws RX2 TX2 15, w ∈ wsX2_chain := by decide +kernel
theorem iX2_chain_X0 : ∀ w ∈ u_ws RX0 TX0 6, w ∈ wsX2_chain := by decide +kernel
set_option maxHeartbeats 4000000 in
set_option maxRecDepth 100000 in
/-- chain -/
theorem kX2_chain (l : Launch) (σ : q_E) (V : q_V) (G : q_G) (hw2 : ∀ a, a < 7 → V 13 a = -1 ∨ ((∃ c, c < 8 ∧ V 13 a = nI c) ∧ ∃ d, d < 8 ∧ V 14 a = nI d)) : q_Mi l yX2_chain wsX2_chain rX2_chain σ [.ref (σ.2.1 0)] V G (fun r V' G' => nI (q_best (q_crd V) (q_cgt V)).length = r ∧ q_boff V V' ∧ G = G') 0 0 := by
  refine q_Mi_of (cc := cX2_chain) (maxL := 1) (lv := [(0, .ref (σ.2.1 0))]) (by decide +kernel) rfl (Nat.le_of_ble_eq_true rfl) rfl ?_
  intro p e s m args below meth c Q C hR
  have hw : ∀ a, a < 7 → V 13 a = -1 ∨ ∃ c, c < 8 ∧ V 13 a = nI c := fun a ha => (hw2 a ha).imp id (fun z => z.1)
  refine q_aload_n C dX2_chain_0 rfl 0 rfl ?_
  refine q_get C (k := 0) (fi := 10) (.ref (σ.2.1 9)) (by omega) q_enBP rfl iX2_chain_X2 (by decide) (by decide +kernel) rfl rfl dX2_chain_1 ?_
  refine q_aload_n C dX2_chain_4 rfl 0 rfl ?_
  refine q_get C (k := 0) (fi := 0) (.ref (σ.2.1 1)) (by omega) q_enBP rfl iX2_chain_X2 (by decide) (by decide +kernel) rfl rfl dX2_chain_5 ?_
  refine q_callNv C (As := [.ref (σ.2.1 1)]) (rest := []) (k := 9) (by omega) q_enBA rfl rfl (kX0_findBest l σ V G hw) 1 (host := RX2) gX2_chain_X0_findBest_n161 rfl rfl rfl (by decide +kernel) (by decide +kernel) (by decide +kernel) (by decide +kernel) (by decide +kernel) ⟨Nat.le_of_ble_eq_true rfl, Nat.le_of_ble_eq_true rfl⟩ dX2_chain_8 rfl (Nat.le_of_ble_eq_true rfl) ⟨Nat.le_of_ble_eq_true rfl, Nat.le_of_ble_eq_true rfl⟩ (fun V_1 G_2 hq_8 => ?_)
  obtain ⟨hoff, hlen, hc, rfl⟩ := hq_8
  obtain ⟨B, hB⟩ : ∃ B, B = (q_best (q_crd V) (q_cgt V)) := ⟨_, rfl⟩
  have hc2 : ∀ i, i < B.length → V_1 17 i = nI (B.getD i 0) := by rw [hB]; exact hc
  have hln : V_1 9 5 = nI B.length := by rw [hB]; exact hlen
  have hbl : B.length ≤ 7 := by rw [hB]; exact q_best_len _ _
  have hin : ∀ i, i < B.length → B.getD i 0 < 7 ∧ q_crd V (B.getD i 0) := by rw [hB]; exact fun i hi => q_best_in _ _ hi
  refine q_aload_n C dX2_chain_11 rfl 0 rfl ?_
  refine q_get C (k := 0) (fi := 10) (.ref (σ.2.1 9)) (by omega) q_enBP rfl iX2_chain_X2 (by decide) (by decide +kernel) rfl rfl dX2_chain_12 ?_
  refine q_getN C (host := RX2) (k := 9) (fi := 5) (.int (nI B.length)) (by omega) q_enBA rfl iX2_chain_X0 (by decide) (by decide +kernel) rfl (by exact congrArg (fun z => some (Value.int z)) hln) dX2_chain_15 ?_
  refine hR _ _ _ _ _ _ _ ?_ rfl (Nat.le_of_ble_eq_true rfl) (Nat.le_of_ble_eq_true rfl) dX2_chain_18
  exact ⟨by rw [hB], hoff, rfl⟩
abbrev rX2_chainAt : Room := { frames := 10, cells := 6, slots := 36, locals := 390 }
theorem iX2_chainAt_X2 : ∀ w ∈ u_ws RX2 TX2 15, w ∈ wsX2_chainAt := by decide +kernel
theorem iX2_chainAt_X0 : ∀ w ∈ u_ws RX0 TX0 6, w ∈ wsX2_chainAt := by decide +kernel
set_option maxHeartbeats 4000000 in
set_option maxRecDepth 100000 in
/-- chainAt -/
theorem kX2_chainAt (l : Launch) (σ : q_E) (V : q_V) (G : q_G) (hlf : l.stackTraces = false) (hw2 : ∀ a, a < 7 → V 13 a = -1 ∨ ((∃ c, c < 8 ∧ V 13 a = nI c) ∧ ∃ d, d < 8 ∧ V 14 a = nI d)) (x : Int32) : q_Xi l yX2_chainAt wsX2_chainAt rX2_chainAt σ [.ref (σ.2.1 0), .int x] V G (fun r V' G' => (q_c1 (q_ok (q_best (q_crd V) (q_cgt V)).length x)) = 0 ∧ nI ((q_best (q_crd V) (q_cgt V)).getD (q_n x) 0) = r ∧ q_boff V V' ∧ G = G') ((fun E V' G' => q_xc [xI] (q_c1 (q_ok (q_best (q_crd V) (q_cgt V)).length x)) E ∧ q_boff V V' ∧ G = G')) 6 36 := by
  refine q_Xi_of (cc := cX2_chainAt) (maxL := 2) (lv := [(0, .ref (σ.2.1 0)), (1, .int x)]) (by decide +kernel) rfl (Nat.le_of_ble_eq_true rfl) rfl ?_
  intro p e s m args below meth c Q C hR hO T
  have hw : ∀ a, a < 7 → V 13 a = -1 ∨ ∃ c, c < 8 ∧ V 13 a = nI c := fun a ha => (hw2 a ha).imp id (fun z => z.1)
  refine q_aload_n C dX2_chainAt_0 rfl 0 rfl ?_
  refine q_get C (k := 0) (fi := 10) (.ref (σ.2.1 9)) (by omega) q_enBP rfl iX2_chainAt_X2 (by decide) (by decide +kernel) rfl rfl dX2_chainAt_1 ?_
  refine q_aload_n C dX2_chainAt_4 rfl 0 rfl ?_
  refine q_get C (k := 0) (fi := 0) (.ref (σ.2.1 1)) (by omega) q_enBP rfl iX2_chainAt_X2 (by decide) (by decide +kernel) rfl rfl dX2_chainAt_5 ?_
  refine q_callNv C (As := [.ref (σ.2.1 1)]) (rest := []) (k := 9) (by omega) q_enBA rfl rfl (kX0_findBest l σ V G hw) 1 (host := RX2) gX2_chainAt_X0_findBest_n161 rfl rfl rfl (by decide +kernel) (by decide +kernel) (by decide +kernel) (by decide +kernel) (by decide +kernel) ⟨Nat.le_of_ble_eq_true rfl, Nat.le_of_ble_eq_true rfl⟩ dX2_chainAt_8 rfl (Nat.le_of_ble_eq_true rfl) ⟨Nat.le_of_ble_eq_true rfl, Nat.le_of_ble_eq_true rfl⟩ (fun V_1 G_2 hq_8 => ?_)
  obtain ⟨hoff, hlen, hc, rfl⟩ := hq_8
  obtain ⟨B, hB⟩ : ∃ B, B = (q_best (q_crd V) (q_cgt V)) := ⟨_, rfl⟩
  have hc2 : ∀ i, i < B.length → V_1 17 i = nI (B.getD i 0) := by rw [hB]; exact hc
  have hln : V_1 9 5 = nI B.length := by rw [hB]; exact hlen
  have hbl : B.length ≤ 7 := by rw [hB]; exact q_best_len _ _
  have hin : ∀ i, i < B.length → B.getD i 0 < 7 ∧ q_crd V (B.getD i 0) := by rw [hB]; exact fun i hi => q_best_in _ _ hi
  refine q_iload_n C dX2_chainAt_11 rfl 1 rfl ?_
  refine q_if_lt C 26 dX2_chainAt_12 (by decide) (fun c_12 => ?_) (fun c_12 => ?_)
  · skip
    refine q_throw C "java/lang/IndexOutOfBoundsException" "no such place in the best chain" T hlf rfl (by decide +kernel) (by decide +kernel) (by decide +kernel) (by decide +kernel) (by decide +kernel) (by decide +kernel) dX2_chainAt_26 dX2_chainAt_29 dX2_chainAt_30 dX2_chainAt_32 dX2_chainAt_35 (Nat.le_of_ble_eq_true rfl) (Nat.le_of_ble_eq_true rfl) (Nat.le_of_ble_eq_true rfl) (Nat.le_of_ble_eq_true rfl) (Nat.le_of_ble_eq_true rfl) (Nat.le_of_ble_eq_true rfl) ?_
    rw [← hB]
    first | exact ⟨q_xc_i (q_c1_1 (q_ok_neg c_12 (by omega))) rfl, hoff, rfl⟩ | exact ⟨q_xc_i (q_c1_1 (q_ok_ge c_23 (by omega))) rfl, hoff, rfl⟩
  · skip
    refine q_iload_n C dX2_chainAt_15 rfl 1 rfl ?_
    refine q_aload_n C dX2_chainAt_16 rfl 0 rfl ?_
    refine q_get C (k := 0) (fi := 10) (.ref (σ.2.1 9)) (by omega) q_enBP rfl iX2_chainAt_X2 (by decide) (by decide +kernel) rfl rfl dX2_chainAt_17 ?_
    refine q_getN C (host := RX2) (k := 9) (fi := 5) (.int (nI B.length)) (by omega) q_enBA rfl iX2_chainAt_X0 (by decide) (by decide +kernel) rfl (by exact congrArg (fun z => some (Value.int z)) hln) dX2_chainAt_20 ?_
    refine q_icmp_lt C 36 dX2_chainAt_23 (by decide) (fun c_23 => ?_) (fun c_23 => ?_)
    · skip
      obtain ⟨a, ha, rfl⟩ := q_ok_of c_12 c_23 (by omega)
      refine q_aload_n C dX2_chainAt_36 rfl 0 rfl ?_
      refine q_get C (k := 0) (fi := 10) (.ref (σ.2.1 9)) (by omega) q_enBP rfl iX2_chainAt_X2 (by decide) (by decide +kernel) rfl rfl dX2_chainAt_37 ?_
      refine q_getN C (host := RX2) (k := 9) (fi := 4) (.ref (σ.2.1 17)) (by omega) q_enBA rfl iX2_chainAt_X0 (by decide) (by decide +kernel) rfl rfl dX2_chainAt_40 ?_
      refine q_iload_n C dX2_chainAt_43 rfl 1 rfl ?_
      refine q_ialdN C (k := 17) (n := 7) ⟨by decide, by decide, by decide⟩ (by omega) (by decide) dX2_chainAt_44 ?_
      refine q_stk (st' := [.int (nI ((B.getD a 0)))]) (congrArg (fun z => Value.int z :: []) (hc2 a ha)) ?_
      refine hR _ _ _ _ _ _ _ ?_ rfl (Nat.le_of_ble_eq_true rfl) (Nat.le_of_ble_eq_true rfl) dX2_chainAt_45
      rw [← hB, q_n_nI (n := a) (by omega)]
      exact ⟨q_c1_0 (q_ok_nI ha), rfl, hoff, rfl⟩
    · skip
      refine q_throw C "java/lang/IndexOutOfBoundsException" "no such place in the best chain" T hlf rfl (by decide +kernel) (by decide +kernel) (by decide +kernel) (by decide +kernel) (by decide +kernel) (by decide +kernel) dX2_chainAt_26 dX2_chainAt_29 dX2_chainAt_30 dX2_chainAt_32 dX2_chainAt_35 (Nat.le_of_ble_eq_true rfl) (Nat.le_of_ble_eq_true rfl) (Nat.le_of_ble_eq_true rfl) (Nat.le_of_ble_eq_true rfl) (Nat.le_of_ble_eq_true rfl) (Nat.le_of_ble_eq_true rfl) ?_
      rw [← hB]
      first | exact ⟨q_xc_i (q_c1_1 (q_ok_neg c_12 (by omega))) rfl, hoff, rfl⟩ | exact ⟨q_xc_i (q_c1_1 (q_ok_ge c_23 (by omega))) rfl, hoff, rfl⟩
abbrev rX2_fair : Room := { frames := 10, cells := 0, slots := 0, locals := 390 }
theorem iX2_fair_X2 : ∀ w ∈ u_ws RX2 TX2 15, w ∈ wsX2_fair := by decide +kernel
theorem iX2_fair_X0 : ∀ w ∈ u_ws RX0 TX0 6, w ∈ wsX2_fair := by decide +kernel
set_option maxHeartbeats 4000000 in
set_option maxRecDepth 100000 in
/-- fair -/
theorem kX2_fair (l : Launch) (σ : q_E) (V : q_V) (G : q_G) (hw2 : ∀ a, a < 7 → V 13 a = -1 ∨ ((∃ c, c < 8 ∧ V 13 a = nI c) ∧ ∃ d, d < 8 ∧ V 14 a = nI d)) : q_Mi l yX2_fair wsX2_fair rX2_fair σ [.ref (σ.2.1 0)] V G (fun r V' G' => nI (q_best (q_crd V) (q_cgt V)).length = r ∧ (∃ U, q_boff V U ∧ q_exch U (q_best (q_crd V) (q_cgt V)) (q_best (q_crd V) (q_cgt V)).length = V') ∧ G = G') 0 0 := by
  refine q_Mi_of (cc := cX2_fair) (maxL := 1) (lv := [(0, .ref (σ.2.1 0))]) (by decide +kernel) rfl (Nat.le_of_ble_eq_true rfl) rfl ?_
  intro p e s m args below meth c Q C hR
  have hw : ∀ a, a < 7 → V 13 a = -1 ∨ ∃ c, c < 8 ∧ V 13 a = nI c := fun a ha => (hw2 a ha).imp id (fun z => z.1)
  refine q_aload_n C dX2_fair_0 rfl 0 rfl ?_
  refine q_get C (k := 0) (fi := 10) (.ref (σ.2.1 9)) (by omega) q_enBP rfl iX2_fair_X2 (by decide) (by decide +kernel) rfl rfl dX2_fair_1 ?_
  refine q_aload_n C dX2_fair_4 rfl 0 rfl ?_
  refine q_get C (k := 0) (fi := 0) (.ref (σ.2.1 1)) (by omega) q_enBP rfl iX2_fair_X2 (by decide) (by decide +kernel) rfl rfl dX2_fair_5 ?_
  refine q_callNv C (As := [.ref (σ.2.1 1)]) (rest := []) (k := 9) (by omega) q_enBA rfl rfl (kX0_findBest l σ V G hw) 1 (host := RX2) gX2_fair_X0_findBest_n161 rfl rfl rfl (by decide +kernel) (by decide +kernel) (by decide +kernel) (by decide +kernel) (by decide +kernel) ⟨Nat.le_of_ble_eq_true rfl, Nat.le_of_ble_eq_true rfl⟩ dX2_fair_8 rfl (Nat.le_of_ble_eq_true rfl) ⟨Nat.le_of_ble_eq_true rfl, Nat.le_of_ble_eq_true rfl⟩ (fun V_1 G_2 hq_8 => ?_)
  obtain ⟨hoff, hlen, hc, rfl⟩ := hq_8
  obtain ⟨B, hB⟩ : ∃ B, B = (q_best (q_crd V) (q_cgt V)) := ⟨_, rfl⟩
  have hc2 : ∀ i, i < B.length → V_1 17 i = nI (B.getD i 0) := by rw [hB]; exact hc
  have hln : V_1 9 5 = nI B.length := by rw [hB]; exact hlen
  have hbl : B.length ≤ 7 := by rw [hB]; exact q_best_len _ _
  have hin : ∀ i, i < B.length → B.getD i 0 < 7 ∧ q_crd V (B.getD i 0) := by rw [hB]; exact fun i hi => q_best_in _ _ hi
  have hwa : ∀ i, i < B.length → ∃ d, d < 8 ∧ V_1 14 (B.getD i 0) = nI d := fun i hi => by
    rw [hoff 14 _ (by decide) (by decide) (by decide) (by omega)]
    exact ((hw2 _ (hin i hi).1).resolve_left (hin i hi).2.1).2
  refine q_aload_n C dX2_fair_11 rfl 0 rfl ?_
  refine q_get C (k := 0) (fi := 10) (.ref (σ.2.1 9)) (by omega) q_enBP rfl iX2_fair_X2 (by decide) (by decide +kernel) rfl rfl dX2_fair_12 ?_
  refine q_aload_n C dX2_fair_15 rfl 0 rfl ?_
  refine q_get C (k := 0) (fi := 0) (.ref (σ.2.1 1)) (by omega) q_enBP rfl iX2_fair_X2 (by decide) (by decide +kernel) rfl rfl dX2_fair_16 ?_
  refine q_callNv C (As := [.ref (σ.2.1 1)]) (rest := []) (k := 9) (by omega) q_enBA rfl rfl (kX0_exchange l σ V_1 G (b := B) hln hbl hc2 (fun i hi => (hin i hi).1) hwa) 1 (host := RX2) gX2_fair_X0_exchange_n177 rfl rfl rfl (by decide +kernel) (by decide +kernel) (by decide +kernel) (by decide +kernel) (by decide +kernel) ⟨Nat.le_of_ble_eq_true rfl, Nat.le_of_ble_eq_true rfl⟩ dX2_fair_19 rfl (Nat.le_of_ble_eq_true rfl) ⟨Nat.le_of_ble_eq_true rfl, Nat.le_of_ble_eq_true rfl⟩ (fun V_3 G_4 hq_19 => ?_)
  obtain ⟨rfl, rfl⟩ := hq_19
  refine q_aload_n C dX2_fair_22 rfl 0 rfl ?_
  refine q_get C (k := 0) (fi := 10) (.ref (σ.2.1 9)) (by omega) q_enBP rfl iX2_fair_X2 (by decide) (by decide +kernel) rfl rfl dX2_fair_23 ?_
  refine q_getN C (host := RX2) (k := 9) (fi := 5) (.int (nI B.length)) (by omega) q_enBA rfl iX2_fair_X0 (by decide) (by decide +kernel) rfl (by exact congrArg (fun z => some (Value.int z)) ((congrFun (q_exch_off _ (fun i hi => (hin i hi).1) B.length (a := 9) (Nat.le_refl _) (by decide)) 5).trans hln)) dX2_fair_26 ?_
  refine hR _ _ _ _ _ _ _ ?_ rfl (Nat.le_of_ble_eq_true rfl) (Nat.le_of_ble_eq_true rfl) dX2_fair_29
  rw [← hB]
  exact ⟨rfl, ⟨_, hoff, rfl⟩, rfl⟩
