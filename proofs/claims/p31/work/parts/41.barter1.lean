/-- who can give, who gets from whom, at the program -/
def q_crd (V : q_V) (a : Nat) : Prop := ¬ V 13 a = -1 ∧ 0 < V (20 + a) (q_n (V 13 a))
def q_cgt (V : q_V) (a b : Nat) : Prop := V 14 a = V 13 b
/-- the first n marked -/
noncomputable def q_rdy (V : q_V) (n : Nat) : q_V := fun i j => if i = 15 ∧ j < n then q_w01 (q_crd V j) else V i j
theorem q_rdy_0 (V : q_V) : q_rdy V 0 = V := by
  funext i j
  exact if_neg (fun z => absurd z.2 (Nat.not_lt_zero j))
theorem q_rdy_off (V : q_V) (n : Nat) {i : Nat} (h : i ≠ 15) : q_rdy V n i = V i := by
  funext j
  exact if_neg (fun z => h z.1)
theorem q_rdy_at (V : q_V) {n j : Nat} (h : j < n) : q_rdy V n 15 j = q_w01 (q_crd V j) := if_pos ⟨rfl, h⟩
theorem q_rdy_succ (V : q_V) {n : Nat} {x : Int32} (h : q_w01 (q_crd V n) = x) : q_up (q_rdy V n) 15 n x = q_rdy V (n + 1) := by
  funext i j
  by_cases hi : i = 15
  · subst hi
    by_cases hj : j = n
    · subst hj
      rw [q_up_self, q_rdy_at V (Nat.lt_succ_self j), h]
    · rw [q_up_ne _ _ (by omega)]
      by_cases h2 : j < n
      · rw [q_rdy_at V h2, q_rdy_at V (Nat.lt_succ_of_lt h2)]
      · exact (if_neg (by omega)).trans (if_neg (by omega)).symm
  · rw [q_up_off _ _ hi, q_rdy_off _ _ hi, q_rdy_off _ _ hi]
abbrev rX0_hasWish : Room := { frames := 1, cells := 0, slots := 0, locals := 12 }
theorem iX0_hasWish_X0 : ∀ w ∈ u_ws RX0 TX0 6, w ∈ wsX0_hasWish := by decide +kernel
set_option maxHeartbeats 4000000 in
set_option maxRecDepth 100000 in
/-- Barter.hasWish -/
theorem kX0_hasWish (l : Launch) (σ : q_E) (V : q_V) (G : q_G) {a : Nat} (ha : a < 7) : q_Mi l yX0_hasWish wsX0_hasWish rX0_hasWish σ [.ref (σ.2.1 9), .int (nI a)] V G (fun r V' G' => q_is (¬ V 13 a = -1) r ∧ V = V' ∧ G = G') 0 0 := by
  refine q_Mi_of (cc := cX0_hasWish) (maxL := 2) (lv := [(0, .ref (σ.2.1 9)), (1, .int (nI a))]) (by decide +kernel) rfl (Nat.le_of_ble_eq_true rfl) rfl ?_
  intro p e s m args below meth c Q C hR
  refine q_aload_n C dX0_hasWish_0 rfl 0 rfl ?_
  refine q_get C (k := 9) (fi := 0) (.ref (σ.2.1 13)) (by omega) q_enBA rfl iX0_hasWish_X0 (by decide) (by decide +kernel) rfl rfl dX0_hasWish_1 ?_
  refine q_iload_n C dX0_hasWish_4 rfl 1 rfl ?_
  refine q_ialdN C (k := 13) (n := 7) ⟨by decide, by decide, by decide⟩ (by omega) (by decide) dX0_hasWish_5 ?_
  refine q_iconst C ((-1)) dX0_hasWish_6 (by decide) ?_
  refine q_icmp_eq C 14 dX0_hasWish_7 (by decide) (fun c_7 => ?_) (fun c_7 => ?_)
  · skip
    refine q_iconst C (nI 0) dX0_hasWish_14 (by decide) ?_
    refine hR _ _ _ _ _ _ _ ?_ (by first | rfl | decide) (Nat.le_of_ble_eq_true rfl) (Nat.le_of_ble_eq_true rfl) dX0_hasWish_15
    exact ⟨q_is_n (fun z => z c_7), rfl, rfl⟩
  · skip
    refine q_iconst C (nI 1) dX0_hasWish_10 (by decide) ?_
    refine q_goto C 15 dX0_hasWish_11 (by decide) ?_
    refine hR _ _ _ _ _ _ _ ?_ (by first | rfl | decide) (Nat.le_of_ble_eq_true rfl) (Nat.le_of_ble_eq_true rfl) dX0_hasWish_15
    exact ⟨q_is_y c_7, rfl, rfl⟩
abbrev rX0_setWish : Room := { frames := 1, cells := 0, slots := 0, locals := 12 }
theorem iX0_setWish_X0 : ∀ w ∈ u_ws RX0 TX0 6, w ∈ wsX0_setWish := by decide +kernel
set_option maxHeartbeats 4000000 in
set_option maxRecDepth 100000 in
/-- Barter.setWish -/
theorem kX0_setWish (l : Launch) (σ : q_E) (V : q_V) (G : q_G) {a : Nat} (ha : a < 7) (y z : Int32) : q_Mv l yX0_setWish wsX0_setWish rX0_setWish σ [.ref (σ.2.1 9), .int (nI a), .int y, .int z] V G (fun V' G' => q_up (q_up V 13 a y) 14 a z = V' ∧ G = G') 0 0 := by
  refine q_Mv_of (cc := cX0_setWish) (maxL := 4) (lv := [(0, .ref (σ.2.1 9)), (1, .int (nI a)), (2, .int y), (3, .int z)]) (by decide +kernel) rfl (Nat.le_of_ble_eq_true rfl) rfl ?_
  intro p e s m args below meth c Q C hR
  refine q_aload_n C dX0_setWish_0 rfl 0 rfl ?_
  refine q_get C (k := 9) (fi := 0) (.ref (σ.2.1 13)) (by omega) q_enBA rfl iX0_setWish_X0 (by decide) (by decide +kernel) rfl rfl dX0_setWish_1 ?_
  refine q_iload_n C dX0_setWish_4 rfl 1 rfl ?_
  refine q_iload_n C dX0_setWish_5 rfl 2 rfl ?_
  refine q_iastN C (k := 13) (n := 7) ⟨by decide, by decide, by decide⟩ (by omega) (by decide) dX0_setWish_6 ?_
  refine q_aload_n C dX0_setWish_7 rfl 0 rfl ?_
  refine q_get C (k := 9) (fi := 1) (.ref (σ.2.1 14)) (by omega) q_enBA rfl iX0_setWish_X0 (by decide) (by decide +kernel) rfl rfl dX0_setWish_8 ?_
  refine q_iload_n C dX0_setWish_11 rfl 1 rfl ?_
  refine q_iload_n C dX0_setWish_12 rfl 3 rfl ?_
  refine q_iastN C (k := 14) (n := 7) ⟨by decide, by decide, by decide⟩ (by omega) (by decide) dX0_setWish_13 ?_
  refine hR _ _ _ _ _ _ ?_ (Nat.le_of_ble_eq_true rfl) (Nat.le_of_ble_eq_true rfl) dX0_setWish_14
  exact ⟨rfl, rfl⟩
abbrev rX0_getsFrom : Room := { frames := 1, cells := 0, slots := 0, locals := 12 }
theorem iX0_getsFrom_X0 : ∀ w ∈ u_ws RX0 TX0 6, w ∈ wsX0_getsFrom := by decide +kernel
set_option maxHeartbeats 4000000 in
set_option maxRecDepth 100000 in
/-- Barter.getsFrom -/
theorem kX0_getsFrom (l : Launch) (σ : q_E) (V : q_V) (G : q_G) {a b : Nat} (ha : a < 7) (hb : b < 7) : q_Mi l yX0_getsFrom wsX0_getsFrom rX0_getsFrom σ [.ref (σ.2.1 9), .int (nI a), .int (nI b)] V G (fun r V' G' => q_is (q_cgt V a b) r ∧ V = V' ∧ G = G') 0 0 := by
  refine q_Mi_of (cc := cX0_getsFrom) (maxL := 3) (lv := [(0, .ref (σ.2.1 9)), (1, .int (nI a)), (2, .int (nI b))]) (by decide +kernel) rfl (Nat.le_of_ble_eq_true rfl) rfl ?_
  intro p e s m args below meth c Q C hR
  refine q_aload_n C dX0_getsFrom_0 rfl 0 rfl ?_
  refine q_get C (k := 9) (fi := 1) (.ref (σ.2.1 14)) (by omega) q_enBA rfl iX0_getsFrom_X0 (by decide) (by decide +kernel) rfl rfl dX0_getsFrom_1 ?_
  refine q_iload_n C dX0_getsFrom_4 rfl 1 rfl ?_
  refine q_ialdN C (k := 14) (n := 7) ⟨by decide, by decide, by decide⟩ (by omega) (by decide) dX0_getsFrom_5 ?_
  refine q_aload_n C dX0_getsFrom_6 rfl 0 rfl ?_
  refine q_get C (k := 9) (fi := 0) (.ref (σ.2.1 13)) (by omega) q_enBA rfl iX0_getsFrom_X0 (by decide) (by decide +kernel) rfl rfl dX0_getsFrom_7 ?_
  refine q_iload_n C dX0_getsFrom_10 rfl 2 rfl ?_
  refine q_ialdN C (k := 13) (n := 7) ⟨by decide, by decide, by decide⟩ (by omega) (by decide) dX0_getsFrom_11 ?_
  refine q_icmp_ne C 19 dX0_getsFrom_12 (by decide) (fun c_12 => ?_) (fun c_12 => ?_)
  · skip
    refine q_iconst C (nI 0) dX0_getsFrom_19 (by decide) ?_
    refine hR _ _ _ _ _ _ _ ?_ (by first | rfl | decide) (Nat.le_of_ble_eq_true rfl) (Nat.le_of_ble_eq_true rfl) dX0_getsFrom_20
    exact ⟨q_is_n c_12, rfl, rfl⟩
  · skip
    refine q_iconst C (nI 1) dX0_getsFrom_15 (by decide) ?_
    refine q_goto C 20 dX0_getsFrom_16 (by decide) ?_
    refine hR _ _ _ _ _ _ _ ?_ (by first | rfl | decide) (Nat.le_of_ble_eq_true rfl) (Nat.le_of_ble_eq_true rfl) dX0_getsFrom_20
    exact ⟨q_is_y c_12, rfl, rfl⟩
abbrev rX0_isInRow : Room := { frames := 1, cells := 0, slots := 0, locals := 12 }
theorem iX0_isInRow_X0 : ∀ w ∈ u_ws RX0 TX0 6, w ∈ wsX0_isInRow := by decide +kernel
set_option maxHeartbeats 4000000 in
set_option maxRecDepth 100000 in
/-- Barter.isInRow -/
theorem kX0_isInRow (l : Launch) (σ : q_E) (V : q_V) (G : q_G) {rs : List Nat} {k : Nat} {n : Nat} (hrn : rs.length = n) (hk : k < 7) (hrl : rs.length ≤ 7) (hr7 : ∀ i, i < rs.length → rs.getD i 0 < 7) (hr : ∀ i, i < rs.length → V 16 i = nI (rs.getD i 0)) : q_Mi l yX0_isInRow wsX0_isInRow rX0_isInRow σ [.ref (σ.2.1 9), .int (nI k), .int (nI n)] V G (fun r V' G' => q_is (∃ i, i < rs.length ∧ rs.getD i 0 = k) r ∧ V = V' ∧ G = G') 0 0 := by
  refine q_Mi_of (cc := cX0_isInRow) (maxL := 4) (lv := [(0, .ref (σ.2.1 9)), (1, .int (nI k)), (2, .int (nI n))]) (by decide +kernel) rfl (Nat.le_of_ble_eq_true rfl) rfl ?_
  intro p e s m args below meth c Q C hR
  refine q_iconst C (nI 0) dX0_isInRow_0 (by decide) ?_
  refine q_istore_n C [(3, .int (nI 0)), (0, .ref (σ.2.1 9)), (1, .int (nI k)), (2, .int (nI n))] dX0_isInRow_1 rfl (by decide) rfl ?_
  have L_1 : ∀ (nL_1 : Nat) (j : Nat) (hj : j ≤ n) (hno : ∀ i, i < j → ¬ rs.getD i 0 = k), n - j < nL_1 → q_W σ p l e rX0_isInRow s m args below meth c Q 4 0 0 V G [(3, .int (nI j)), (0, .ref (σ.2.1 9)), (1, .int (nI k)), (2, .int (nI n))] 2 [] := by
    intro nL_1
    induction nL_1 with
    | zero => intro j hj hno h; exact absurd h (Nat.not_lt_zero _)
    | succ nL_1 ihL_1 =>
      intro j hj hno hmL_1
      refine q_iload_n C dX0_isInRow_2 rfl 0 rfl ?_
      refine q_iload_n C dX0_isInRow_3 rfl 3 rfl ?_
      refine q_icmp_geN C 25 dX0_isInRow_4 (by decide) (by omega) (by omega) (fun c_4 => ?_) (fun c_4 => ?_)
      · skip
        refine q_iconst C (nI 0) dX0_isInRow_25 (by decide) ?_
        refine hR _ _ _ _ _ _ _ ?_ (by first | rfl | decide) (Nat.le_of_ble_eq_true rfl) (Nat.le_of_ble_eq_true rfl) dX0_isInRow_26
        exact ⟨q_is_n (fun ⟨i, hi, e⟩ => hno i (by omega) e), rfl, rfl⟩
      · skip
        refine q_aload_n C dX0_isInRow_7 rfl 1 rfl ?_
        refine q_get C (k := 9) (fi := 3) (.ref (σ.2.1 16)) (by omega) q_enBA rfl iX0_isInRow_X0 (by decide) (by decide +kernel) rfl rfl dX0_isInRow_8 ?_
        refine q_iload_n C dX0_isInRow_11 rfl 0 rfl ?_
        refine q_ialdN C (k := 16) (n := 7) ⟨by decide, by decide, by decide⟩ (by omega) (by decide) dX0_isInRow_12 ?_
        refine q_stk (st' := [.int (nI (rs.getD j 0))]) (congrArg (fun z => Value.int z :: []) (hr j (by omega))) ?_
        refine q_iload_n C dX0_isInRow_13 rfl 2 rfl ?_
        refine q_icmp_neN C 19 dX0_isInRow_14 (by decide) (by have := hr7 j (by omega); omega) (by omega) (fun c_14 => ?_) (fun c_14 => ?_)
        · skip
          refine q_iincN C [(3, .int (nI (j + 1))), (0, .ref (σ.2.1 9)), (1, .int (nI k)), (2, .int (nI n))] dX0_isInRow_19 0 rfl (by decide) rfl ?_
          refine q_goto C 2 dX0_isInRow_22 (by decide) ?_
          refine q_sub (lv' := [(3, .int (nI (j + 1))), (0, .ref (σ.2.1 9)), (1, .int (nI k)), (2, .int (nI n))]) [0, 1, 2, 3] rfl ?_
          exact ihL_1 (j + 1) (by omega) (lt_s hno c_14) (by omega)
        · skip
          refine q_iconst C (nI 1) dX0_isInRow_17 (by decide) ?_
          refine hR _ _ _ _ _ _ _ ?_ (by first | rfl | decide) (Nat.le_of_ble_eq_true rfl) (Nat.le_of_ble_eq_true rfl) dX0_isInRow_18
          exact ⟨q_is_y ⟨j, by omega, c_14⟩, rfl, rfl⟩
  refine q_sub (lv' := [(3, .int (nI 0)), (0, .ref (σ.2.1 9)), (1, .int (nI k)), (2, .int (nI n))]) [0, 1, 2, 3] rfl ?_
  exact L_1 _ 0 (Nat.zero_le _) lt_0 (Nat.lt_succ_self _)
abbrev rX0_markReady : Room := { frames := 2, cells := 0, slots := 0, locals := 33 }
theorem iX0_markReady_X0 : ∀ w ∈ u_ws RX0 TX0 6, w ∈ wsX0_markReady := by decide +kernel
set_option maxHeartbeats 4000000 in
set_option maxRecDepth 100000 in
/-- Barter.markReady -/
theorem kX0_markReady (l : Launch) (σ : q_E) (V : q_V) (G : q_G) (hw : ∀ a, a < 7 → V 13 a = -1 ∨ ∃ c, c < 8 ∧ V 13 a = nI c) : q_Mv l yX0_markReady wsX0_markReady rX0_markReady σ [.ref (σ.2.1 9), .ref (σ.2.1 1)] V G (fun V' G' => q_rdy V 7 = V' ∧ G = G') 0 0 := by
  refine q_Mv_of (cc := cX0_markReady) (maxL := 3) (lv := [(0, .ref (σ.2.1 9)), (1, .ref (σ.2.1 1))]) (by decide +kernel) rfl (Nat.le_of_ble_eq_true rfl) rfl ?_
  intro p e s m args below meth c Q C hR
  refine q_iconst C (nI 0) dX0_markReady_0 (by decide) ?_
  refine q_istore_n C [(2, .int (nI 0)), (0, .ref (σ.2.1 9)), (1, .ref (σ.2.1 1))] dX0_markReady_1 rfl (by decide) rfl ?_
  have L_1 : ∀ (nL_1 : Nat) (j : Nat) (hj : j ≤ 7), 7 - j < nL_1 → q_W σ p l e rX0_markReady s m args below meth c Q 3 0 0 (q_rdy V j) G [(2, .int (nI j)), (0, .ref (σ.2.1 9)), (1, .ref (σ.2.1 1))] 2 [] := by
    intro nL_1
    induction nL_1 with
    | zero => intro j hj h; exact absurd h (Nat.not_lt_zero _)
    | succ nL_1 ihL_1 =>
      intro j hj hmL_1
      refine q_iload_n C dX0_markReady_2 rfl 0 rfl ?_
      refine q_bipush C (nI 7) dX0_markReady_3 (by decide) ?_
      refine q_icmp_geN C 46 dX0_markReady_5 (by decide) (by omega) (by omega) (fun c_5 => ?_) (fun c_5 => ?_)
      · skip
        refine hR _ _ _ _ _ _ ?_ (Nat.le_of_ble_eq_true rfl) (Nat.le_of_ble_eq_true rfl) dX0_markReady_46
        obtain rfl : j = 7 := by omega
        exact ⟨rfl, rfl⟩
      · skip
        refine q_aload_n C dX0_markReady_8 rfl 1 rfl ?_
        refine q_get C (k := 9) (fi := 2) (.ref (σ.2.1 15)) (by omega) q_enBA rfl iX0_markReady_X0 (by decide) (by decide +kernel) rfl rfl dX0_markReady_9 ?_
        refine q_iload_n C dX0_markReady_12 rfl 0 rfl ?_
        refine q_aload_n C dX0_markReady_13 rfl 1 rfl ?_
        refine q_iload_n C dX0_markReady_14 rfl 0 rfl ?_
        refine q_callVi C (As := [.int (nI j)]) (rest := [.int (nI j), .ref (σ.2.1 15)]) (k := 9) (by omega) q_enBA rfl rfl (kX0_hasWish l σ (q_rdy V j) G (a := j) (by omega)) 1 gX0_markReady_X0_hasWish rfl rfl rfl (by decide +kernel) ⟨Nat.le_of_ble_eq_true rfl, Nat.le_of_ble_eq_true rfl⟩ dX0_markReady_15 rfl (Nat.le_of_ble_eq_true rfl) ⟨Nat.le_of_ble_eq_true rfl, Nat.le_of_ble_eq_true rfl⟩ (fun r_15 V_2 G_3 hq_15 => ?_)
        obtain ⟨hs_15, rfl, rfl⟩ := hq_15
        refine q_if_eq C 38 dX0_markReady_18 (by decide) (fun c_18 => ?_) (fun c_18 => ?_)
        · skip
          have b_15 := (q_is_eq hs_15).mp c_18
          refine q_iconst C (nI 0) dX0_markReady_38 (by decide) ?_
          refine q_zastN C (by omega) rfl dX0_markReady_39 ?_
          refine q_VG (V' := q_rdy V (j + 1)) (G' := G) (by first | exact q_rdy_succ V (q_w01_n (fun z => z.1 (Classical.not_not.mp b_15))) | exact q_rdy_succ V (q_w01_n (fun z => Int32.not_lt.mpr c_31 (by have h9 := z.2; rw [hce, q_n_nI (by omega)] at h9; rw [q_rdy_off _ _ (by omega)]; exact h9))) | exact q_rdy_succ V (q_w01_y ⟨b_15, by rw [hce, q_n_nI (by omega)]; rw [q_rdy_off _ _ (by omega)] at c_31; exact Int32.not_le.mp c_31⟩)) rfl ?_
          refine q_iincN C [(2, .int (nI (j + 1))), (0, .ref (σ.2.1 9)), (1, .ref (σ.2.1 1))] dX0_markReady_40 0 rfl (by decide) rfl ?_
          refine q_goto C 2 dX0_markReady_43 (by decide) ?_
          refine q_sub (lv' := [(2, .int (nI (j + 1))), (0, .ref (σ.2.1 9)), (1, .ref (σ.2.1 1))]) [0, 1, 2] rfl ?_
          exact ihL_1 (j + 1) (by omega) (by omega)
        · skip
          have b_15 := (q_is_ne hs_15).mp c_18
          obtain ⟨cc, hcc, hce⟩ := (hw j (by omega)).resolve_left b_15
          refine q_aload_n C dX0_markReady_21 rfl 2 rfl ?_
          refine q_iload_n C dX0_markReady_22 rfl 0 rfl ?_
          refine q_aaldH C (by omega) dX0_markReady_23 ?_
          refine q_aload_n C dX0_markReady_24 rfl 1 rfl ?_
          refine q_get C (k := 9) (fi := 0) (.ref (σ.2.1 13)) (by omega) q_enBA rfl iX0_markReady_X0 (by decide) (by decide +kernel) rfl rfl dX0_markReady_25 ?_
          refine q_iload_n C dX0_markReady_28 rfl 0 rfl ?_
          refine q_ialdN C (k := 13) (n := 7) ⟨by decide, by decide, by decide⟩ (by omega) (by decide) dX0_markReady_29 ?_
          refine q_stk (st' := [.int (nI cc), .ref (σ.2.1 (20 + j)), .int (nI j), .ref (σ.2.1 15)]) (congrArg (fun z => Value.int z :: [.ref (σ.2.1 (20 + j)), .int (nI j), .ref (σ.2.1 15)]) (hce)) ?_
          refine q_ialdN C (k := 20 + j) (q_isI_hand (by omega)) (by omega) (by decide) dX0_markReady_30 ?_
          refine q_if_le C 38 dX0_markReady_31 (by decide) (fun c_31 => ?_) (fun c_31 => ?_)
          · skip
            refine q_iconst C (nI 0) dX0_markReady_38 (by decide) ?_
            refine q_zastN C (by omega) rfl dX0_markReady_39 ?_
            refine q_VG (V' := q_rdy V (j + 1)) (G' := G) (by first | exact q_rdy_succ V (q_w01_n (fun z => z.1 (Classical.not_not.mp b_15))) | exact q_rdy_succ V (q_w01_n (fun z => Int32.not_lt.mpr c_31 (by have h9 := z.2; rw [hce, q_n_nI (by omega)] at h9; rw [q_rdy_off _ _ (by omega)]; exact h9))) | exact q_rdy_succ V (q_w01_y ⟨b_15, by rw [hce, q_n_nI (by omega)]; rw [q_rdy_off _ _ (by omega)] at c_31; exact Int32.not_le.mp c_31⟩)) rfl ?_
            refine q_iincN C [(2, .int (nI (j + 1))), (0, .ref (σ.2.1 9)), (1, .ref (σ.2.1 1))] dX0_markReady_40 0 rfl (by decide) rfl ?_
            refine q_goto C 2 dX0_markReady_43 (by decide) ?_
            refine q_sub (lv' := [(2, .int (nI (j + 1))), (0, .ref (σ.2.1 9)), (1, .ref (σ.2.1 1))]) [0, 1, 2] rfl ?_
            exact ihL_1 (j + 1) (by omega) (by omega)
          · skip
            refine q_iconst C (nI 1) dX0_markReady_34 (by decide) ?_
            refine q_goto C 39 dX0_markReady_35 (by decide) ?_
            refine q_zastN C (by omega) rfl dX0_markReady_39 ?_
            refine q_VG (V' := q_rdy V (j + 1)) (G' := G) (by first | exact q_rdy_succ V (q_w01_n (fun z => z.1 (Classical.not_not.mp b_15))) | exact q_rdy_succ V (q_w01_n (fun z => Int32.not_lt.mpr c_31 (by have h9 := z.2; rw [hce, q_n_nI (by omega)] at h9; rw [q_rdy_off _ _ (by omega)]; exact h9))) | exact q_rdy_succ V (q_w01_y ⟨b_15, by rw [hce, q_n_nI (by omega)]; rw [q_rdy_off _ _ (by omega)] at c_31; exact Int32.not_le.mp c_31⟩)) rfl ?_
            refine q_iincN C [(2, .int (nI (j + 1))), (0, .ref (σ.2.1 9)), (1, .ref (σ.2.1 1))] dX0_markReady_40 0 rfl (by decide) rfl ?_
            refine q_goto C 2 dX0_markReady_43 (by decide) ?_
            refine q_sub (lv' := [(2, .int (nI (j + 1))), (0, .ref (σ.2.1 9)), (1, .ref (σ.2.1 1))]) [0, 1, 2] rfl ?_
            exact ihL_1 (j + 1) (by omega) (by omega)
  refine q_sub (lv' := [(2, .int (nI 0)), (0, .ref (σ.2.1 9)), (1, .ref (σ.2.1 1))]) [0, 1, 2] rfl ?_
  refine q_VG (V' := q_rdy V 0) (G' := G) ((q_rdy_0 V).symm) rfl ?_
  exact L_1 _ 0 (Nat.zero_le _) (Nat.lt_succ_self _)
