abbrev rX3_isIn : Room := { frames := 1, cells := 0, slots := 0, locals := 12 }
set_option maxHeartbeats 4000000 in
set_option maxRecDepth 100000 in
/-- isIn -/
theorem kX3_isIn (l : Launch) (σ : q_E) (V : q_V) (G : q_G) (x lo hi : Int32) : q_Mi l yX3_isIn wsX3_isIn rX3_isIn σ [.int x, .int lo, .int hi] V G (fun r V' G' => q_is (¬ x < lo ∧ ¬ hi < x) r ∧ V = V' ∧ G = G') 0 0 := by
  refine q_Mi_of (cc := cX3_isIn) (maxL := 3) (lv := [(0, .int x), (1, .int lo), (2, .int hi)]) (by decide +kernel) rfl (Nat.le_of_ble_eq_true rfl) rfl ?_
  intro p e s m args below meth c Q C hR
  refine q_iload_n C dX3_isIn_0 rfl 0 rfl ?_
  refine q_iload_n C dX3_isIn_1 rfl 1 rfl ?_
  refine q_icmp_lt C 14 dX3_isIn_2 (by decide) (fun c_2 => ?_) (fun c_2 => ?_)
  · skip
    refine q_iconst C (nI 0) dX3_isIn_14 (by decide) ?_
    refine hR _ _ _ _ _ _ _ ?_ (by first | rfl | decide) (Nat.le_of_ble_eq_true rfl) (Nat.le_of_ble_eq_true rfl) dX3_isIn_15
    first | exact ⟨q_is_n (fun z => z.2 c_7), rfl, rfl⟩ | exact ⟨q_is_n (fun z => z.1 c_2), rfl, rfl⟩
  · skip
    refine q_iload_n C dX3_isIn_5 rfl 0 rfl ?_
    refine q_iload_n C dX3_isIn_6 rfl 2 rfl ?_
    refine q_icmp_gt C 14 dX3_isIn_7 (by decide) (fun c_7 => ?_) (fun c_7 => ?_)
    · skip
      refine q_iconst C (nI 0) dX3_isIn_14 (by decide) ?_
      refine hR _ _ _ _ _ _ _ ?_ (by first | rfl | decide) (Nat.le_of_ble_eq_true rfl) (Nat.le_of_ble_eq_true rfl) dX3_isIn_15
      first | exact ⟨q_is_n (fun z => z.2 c_7), rfl, rfl⟩ | exact ⟨q_is_n (fun z => z.1 c_2), rfl, rfl⟩
    · skip
      refine q_iconst C (nI 1) dX3_isIn_10 (by decide) ?_
      refine q_goto C 15 dX3_isIn_11 (by decide) ?_
      refine hR _ _ _ _ _ _ _ ?_ (by first | rfl | decide) (Nat.le_of_ble_eq_true rfl) (Nat.le_of_ble_eq_true rfl) dX3_isIn_15
      exact ⟨q_is_y ⟨c_2, c_7⟩, rfl, rfl⟩
abbrev rX3_isPerson : Room := { frames := 2, cells := 0, slots := 0, locals := 34 }
set_option maxHeartbeats 4000000 in
set_option maxRecDepth 100000 in
/-- isPerson -/
theorem kX3_isPerson (l : Launch) (σ : q_E) (V : q_V) (G : q_G) (x : Int32) : q_Mi l yX3_isPerson wsX3_isPerson rX3_isPerson σ [.int x] V G (fun r V' G' => q_is (q_ok 7 x) r ∧ V = V' ∧ G = G') 0 0 := by
  refine q_Mi_of (cc := cX3_isPerson) (maxL := 1) (lv := [(0, .int x)]) (by decide +kernel) rfl (Nat.le_of_ble_eq_true rfl) rfl ?_
  intro p e s m args below meth c Q C hR
  refine q_iload_n C dX3_isPerson_0 rfl 0 rfl ?_
  refine q_iconst C (nI 0) dX3_isPerson_1 (by decide) ?_
  refine q_bipush C (nI 6) dX3_isPerson_2 (by decide) ?_
  refine q_callSi C (As := [.int x, .int (nI 0), .int (nI 6)]) (rest := []) (kX3_isIn l σ V G x (nI 0) (nI 6)) 3 gX3_isPerson_X3_isIn rfl rfl rfl (by decide +kernel) ⟨Nat.le_of_ble_eq_true rfl, Nat.le_of_ble_eq_true rfl⟩ dX3_isPerson_4 rfl (Nat.le_of_ble_eq_true rfl) ⟨Nat.le_of_ble_eq_true rfl, Nat.le_of_ble_eq_true rfl⟩ (fun r_4 V_1 G_2 hq_4 => ?_)
  obtain ⟨hs_4, rfl, rfl⟩ := hq_4
  refine hR _ _ _ _ _ _ _ ?_ (q_is_nar hs_4) (Nat.le_of_ble_eq_true rfl) (Nat.le_of_ble_eq_true rfl) dX3_isPerson_7
  exact ⟨q_is_iff hs_4 (q_in_ok (by decide)), rfl, rfl⟩
abbrev rX3_isColour : Room := { frames := 2, cells := 0, slots := 0, locals := 34 }
set_option maxHeartbeats 4000000 in
set_option maxRecDepth 100000 in
/-- isColour -/
theorem kX3_isColour (l : Launch) (σ : q_E) (V : q_V) (G : q_G) (x : Int32) : q_Mi l yX3_isColour wsX3_isColour rX3_isColour σ [.int x] V G (fun r V' G' => q_is (q_ok 8 x) r ∧ V = V' ∧ G = G') 0 0 := by
  refine q_Mi_of (cc := cX3_isColour) (maxL := 1) (lv := [(0, .int x)]) (by decide +kernel) rfl (Nat.le_of_ble_eq_true rfl) rfl ?_
  intro p e s m args below meth c Q C hR
  refine q_iload_n C dX3_isColour_0 rfl 0 rfl ?_
  refine q_iconst C (nI 0) dX3_isColour_1 (by decide) ?_
  refine q_bipush C (nI 7) dX3_isColour_2 (by decide) ?_
  refine q_callSi C (As := [.int x, .int (nI 0), .int (nI 7)]) (rest := []) (kX3_isIn l σ V G x (nI 0) (nI 7)) 3 gX3_isColour_X3_isIn rfl rfl rfl (by decide +kernel) ⟨Nat.le_of_ble_eq_true rfl, Nat.le_of_ble_eq_true rfl⟩ dX3_isColour_4 rfl (Nat.le_of_ble_eq_true rfl) ⟨Nat.le_of_ble_eq_true rfl, Nat.le_of_ble_eq_true rfl⟩ (fun r_4 V_1 G_2 hq_4 => ?_)
  obtain ⟨hs_4, rfl, rfl⟩ := hq_4
  refine hR _ _ _ _ _ _ _ ?_ (q_is_nar hs_4) (Nat.le_of_ble_eq_true rfl) (Nat.le_of_ble_eq_true rfl) dX3_isColour_7
  exact ⟨q_is_iff hs_4 (q_in_ok (by decide)), rfl, rfl⟩
abbrev rX3_isPattern : Room := { frames := 2, cells := 0, slots := 0, locals := 34 }
theorem iX3_isPattern_X3 : ∀ w ∈ u_ws RX3 TX3 26, w ∈ wsX3_isPattern := by decide +kernel
set_option maxHeartbeats 4000000 in
set_option maxRecDepth 100000 in
/-- isPattern -/
theorem kX3_isPattern (l : Launch) (σ : q_E) (V : q_V) (G : q_G) {n : Nat} (hn : V 19 7 = nI n) (hn2 : n ≤ 12) (x : Int32) : q_Mi l yX3_isPattern wsX3_isPattern rX3_isPattern σ [.ref (σ.2.1 19), .int x] V G (fun r V' G' => q_is (q_ok n x) r ∧ V = V' ∧ G = G') 0 0 := by
  refine q_Mi_of (cc := cX3_isPattern) (maxL := 2) (lv := [(0, .ref (σ.2.1 19)), (1, .int x)]) (by decide +kernel) rfl (Nat.le_of_ble_eq_true rfl) rfl ?_
  intro p e s m args below meth c Q C hR
  refine q_iload_n C dX3_isPattern_0 rfl 1 rfl ?_
  refine q_iconst C (nI 0) dX3_isPattern_1 (by decide) ?_
  refine q_aload_n C dX3_isPattern_2 rfl 0 rfl ?_
  refine q_get C (k := 19) (fi := 7) (.int (nI n)) (by omega) q_enMO rfl iX3_isPattern_X3 (by decide) (by decide +kernel) rfl (congrArg (fun z => some (Value.int z)) (hn)) dX3_isPattern_3 ?_
  refine q_iconst C (nI 1) dX3_isPattern_6 (by decide) ?_
  refine q_isub C dX3_isPattern_7 ?_
  refine q_callSi C (As := [.int x, .int (nI 0), .int (nI n - nI 1)]) (rest := []) (kX3_isIn l σ V G x (nI 0) (nI n - nI 1)) 3 gX3_isPattern_X3_isIn rfl rfl rfl (by decide +kernel) ⟨Nat.le_of_ble_eq_true rfl, Nat.le_of_ble_eq_true rfl⟩ dX3_isPattern_8 rfl (Nat.le_of_ble_eq_true rfl) ⟨Nat.le_of_ble_eq_true rfl, Nat.le_of_ble_eq_true rfl⟩ (fun r_8 V_1 G_2 hq_8 => ?_)
  obtain ⟨hs_8, rfl, rfl⟩ := hq_8
  refine hR _ _ _ _ _ _ _ ?_ (q_is_nar hs_8) (Nat.le_of_ble_eq_true rfl) (Nat.le_of_ble_eq_true rfl) dX3_isPattern_11
  exact ⟨q_is_iff hs_8 (q_in_ok2 (by omega)), rfl, rfl⟩
abbrev rX3_isBelt : Room := { frames := 2, cells := 0, slots := 0, locals := 34 }
theorem iX3_isBelt_X3 : ∀ w ∈ u_ws RX3 TX3 26, w ∈ wsX3_isBelt := by decide +kernel
set_option maxHeartbeats 4000000 in
set_option maxRecDepth 100000 in
/-- isBelt -/
theorem kX3_isBelt (l : Launch) (σ : q_E) (V : q_V) (G : q_G) (x : Int32) : q_Mi l yX3_isBelt wsX3_isBelt rX3_isBelt σ [.ref (σ.2.1 19), .int x] V G (fun r V' G' => q_is (∃ b, b < 20 ∧ x = nI b ∧ ¬ V 78 b = -1) r ∧ V = V' ∧ G = G') 0 0 := by
  refine q_Mi_of (cc := cX3_isBelt) (maxL := 2) (lv := [(0, .ref (σ.2.1 19)), (1, .int x)]) (by decide +kernel) rfl (Nat.le_of_ble_eq_true rfl) rfl ?_
  intro p e s m args below meth c Q C hR
  refine q_iload_n C dX3_isBelt_0 rfl 1 rfl ?_
  refine q_iconst C (nI 0) dX3_isBelt_1 (by decide) ?_
  refine q_bipush C (nI 19) dX3_isBelt_2 (by decide) ?_
  refine q_callSi C (As := [.int x, .int (nI 0), .int (nI 19)]) (rest := []) (kX3_isIn l σ V G x (nI 0) (nI 19)) 3 gX3_isBelt_X3_isIn rfl rfl rfl (by decide +kernel) ⟨Nat.le_of_ble_eq_true rfl, Nat.le_of_ble_eq_true rfl⟩ dX3_isBelt_4 rfl (Nat.le_of_ble_eq_true rfl) ⟨Nat.le_of_ble_eq_true rfl, Nat.le_of_ble_eq_true rfl⟩ (fun r_4 V_1 G_2 hq_4 => ?_)
  obtain ⟨hs_4, rfl, rfl⟩ := hq_4
  refine q_if_eq C 24 dX3_isBelt_7 (by decide) (fun c_7 => ?_) (fun c_7 => ?_)
  · skip
    have b_4 := (q_is_eq hs_4).mp c_7
    refine q_iconst C (nI 0) dX3_isBelt_24 (by decide) ?_
    refine hR _ _ _ _ _ _ _ ?_ (by first | rfl | decide) (Nat.le_of_ble_eq_true rfl) (Nat.le_of_ble_eq_true rfl) dX3_isBelt_25
    first | exact ⟨q_is_n (fun ⟨j, hj, e, h⟩ => h (q_nI_inj e (by omega) (by omega) ▸ c_17)), rfl, rfl⟩ | exact ⟨q_is_n (fun ⟨j, hj, e, h⟩ => b_4 ((q_in_ok (m := 19) (by decide)).mpr ⟨j, hj, e⟩)), rfl, rfl⟩
  · skip
    have b_4 := (q_is_ne hs_4).mp c_7
    obtain ⟨b, hb, rfl⟩ := (q_in_ok (m := 19) (by decide)).mp b_4
    refine q_aload_n C dX3_isBelt_10 rfl 0 rfl ?_
    refine q_get C (k := 19) (fi := 13) (.ref (σ.2.1 78)) (by omega) q_enMO rfl iX3_isBelt_X3 (by decide) (by decide +kernel) rfl rfl dX3_isBelt_11 ?_
    refine q_iload_n C dX3_isBelt_14 rfl 1 rfl ?_
    refine q_ialdN C (k := 78) (n := 20) ⟨by decide, by decide, by decide⟩ (by omega) (by decide) dX3_isBelt_15 ?_
    refine q_iconst C ((-1)) dX3_isBelt_16 (by decide) ?_
    refine q_icmp_eq C 24 dX3_isBelt_17 (by decide) (fun c_17 => ?_) (fun c_17 => ?_)
    · skip
      refine q_iconst C (nI 0) dX3_isBelt_24 (by decide) ?_
      refine hR _ _ _ _ _ _ _ ?_ (by first | rfl | decide) (Nat.le_of_ble_eq_true rfl) (Nat.le_of_ble_eq_true rfl) dX3_isBelt_25
      first | exact ⟨q_is_n (fun ⟨j, hj, e, h⟩ => h (q_nI_inj e (by omega) (by omega) ▸ c_17)), rfl, rfl⟩ | exact ⟨q_is_n (fun ⟨j, hj, e, h⟩ => b_4 ((q_in_ok (m := 19) (by decide)).mpr ⟨j, hj, e⟩)), rfl, rfl⟩
    · skip
      refine q_iconst C (nI 1) dX3_isBelt_20 (by decide) ?_
      refine q_goto C 25 dX3_isBelt_21 (by decide) ?_
      refine hR _ _ _ _ _ _ _ ?_ (by first | rfl | decide) (Nat.le_of_ble_eq_true rfl) (Nat.le_of_ble_eq_true rfl) dX3_isBelt_25
      refine ⟨q_is_y ⟨b, hb, rfl, c_17⟩, rfl, rfl⟩
abbrev rX3_at : Room := { frames := 1, cells := 0, slots := 0, locals := 12 }
theorem iX3_at_X3 : ∀ w ∈ u_ws RX3 TX3 26, w ∈ wsX3_at := by decide +kernel
set_option maxHeartbeats 4000000 in
set_option maxRecDepth 100000 in
/-- at -/
theorem kX3_at (l : Launch) (σ : q_E) (V : q_V) (G : q_G) {pa cn rn : Nat} (hp : pa < 12) (hc : cn < 8) (hr : rn < 6) : q_Mi l yX3_at wsX3_at rX3_at σ [.ref (σ.2.1 19), .int (nI pa), .int (nI cn), .int (nI rn)] V G (fun r V' G' => V 75 (48 * pa + 8 * rn + cn) = r ∧ V = V' ∧ G = G') 0 0 := by
  refine q_Mi_of (cc := cX3_at) (maxL := 4) (lv := [(0, .ref (σ.2.1 19)), (1, .int (nI pa)), (2, .int (nI cn)), (3, .int (nI rn))]) (by decide +kernel) rfl (Nat.le_of_ble_eq_true rfl) rfl ?_
  intro p e s m args below meth c Q C hR
  refine q_aload_n C dX3_at_0 rfl 0 rfl ?_
  refine q_get C (k := 19) (fi := 10) (.ref (σ.2.1 75)) (by omega) q_enMO rfl iX3_at_X3 (by decide) (by decide +kernel) rfl rfl dX3_at_1 ?_
  refine q_bipush C (nI 48) dX3_at_4 (by decide) ?_
  refine q_iload_n C dX3_at_6 rfl 1 rfl ?_
  refine q_imulN C dX3_at_7  ?_
  refine q_bipush C (nI 8) dX3_at_8 (by decide) ?_
  refine q_iload_n C dX3_at_10 rfl 3 rfl ?_
  refine q_imulN C dX3_at_11  ?_
  refine q_iaddN C dX3_at_12  ?_
  refine q_iload_n C dX3_at_13 rfl 2 rfl ?_
  refine q_iaddN C dX3_at_14  ?_
  refine q_ialdN C (k := 75) (n := 576) ⟨by decide, by decide, by decide⟩ (by omega) (by decide) dX3_at_15 ?_
  refine hR _ _ _ _ _ _ _ ?_ rfl (Nat.le_of_ble_eq_true rfl) (Nat.le_of_ble_eq_true rfl) dX3_at_16
  exact ⟨rfl, rfl, rfl⟩
abbrev rX3_needsOf : Room := { frames := 2, cells := 0, slots := 0, locals := 35 }
theorem iX3_needsOf_X3 : ∀ w ∈ u_ws RX3 TX3 26, w ∈ wsX3_needsOf := by decide +kernel
set_option maxHeartbeats 4000000 in
set_option maxRecDepth 100000 in
/-- needsOf -/
theorem kX3_needsOf (l : Launch) (σ : q_E) (V : q_V) (G : q_G) {pa w h : Nat} (hp : pa < 12) (hm : q_mok V pa w h) (y : Int32) : q_Mi l yX3_needsOf wsX3_needsOf rX3_needsOf σ [.ref (σ.2.1 19), .int (nI pa), .int y] V G (fun r V' G' => nI (q_ct (q_mneed V pa w y) (w * h)) = r ∧ V = V' ∧ G = G') 0 0 := by
  refine q_Mi_of (cc := cX3_needsOf) (maxL := 5) (lv := [(0, .ref (σ.2.1 19)), (1, .int (nI pa)), (2, .int y)]) (by decide +kernel) rfl (Nat.le_of_ble_eq_true rfl) rfl ?_
  intro p e s m args below meth c Q C hR
  obtain ⟨hmw, hmh, hw1, hw8, hh1, hh6⟩ := id hm
  have hwh : w * h ≤ 48 := Nat.mul_le_mul hw8 hh6
  refine q_iconst C (nI 0) dX3_needsOf_0 (by decide) ?_
  refine q_istore_n C [(3, .int (nI 0)), (0, .ref (σ.2.1 19)), (1, .int (nI pa)), (2, .int y)] dX3_needsOf_1 rfl (by decide) rfl ?_
  refine q_iconst C (nI 0) dX3_needsOf_2 (by decide) ?_
  refine q_istore C [(4, .int (nI 0)), (3, .int (nI 0)), (0, .ref (σ.2.1 19)), (1, .int (nI pa)), (2, .int y)] dX3_needsOf_3 (by decide) rfl ?_
  have L_1 : ∀ (nL_1 : Nat) (j n : Nat) (hj : j ≤ w * h) (hn : n = q_ct (q_mneed V pa w y) j), w * h - j < nL_1 → q_W σ p l e rX3_needsOf s m args below meth c Q 5 0 0 V G [(3, .int (nI n)), (4, .int (nI j)), (0, .ref (σ.2.1 19)), (1, .int (nI pa)), (2, .int y)] 5 [] := by
    intro nL_1
    induction nL_1 with
    | zero => intro j n hj hn h; exact absurd h (Nat.not_lt_zero _)
    | succ nL_1 ihL_1 =>
      intro j n hj hn hmL_1
      refine q_iload C dX3_needsOf_5 1 rfl ?_
      refine q_aload_n C dX3_needsOf_7 rfl 2 rfl ?_
      refine q_get C (k := 19) (fi := 8) (.ref (σ.2.1 73)) (by omega) q_enMO rfl iX3_needsOf_X3 (by decide) (by decide +kernel) rfl rfl dX3_needsOf_8 ?_
      refine q_iload_n C dX3_needsOf_11 rfl 3 rfl ?_
      refine q_ialdN C (k := 73) (n := 12) ⟨by decide, by decide, by decide⟩ (by omega) (by decide) dX3_needsOf_12 ?_
      refine q_stk (st' := [.int (nI w), .int (nI j)]) (congrArg (fun z => Value.int z :: [.int (nI j)]) (hmw)) ?_
      refine q_aload_n C dX3_needsOf_13 rfl 2 rfl ?_
      refine q_get C (k := 19) (fi := 9) (.ref (σ.2.1 74)) (by omega) q_enMO rfl iX3_needsOf_X3 (by decide) (by decide +kernel) rfl rfl dX3_needsOf_14 ?_
      refine q_iload_n C dX3_needsOf_17 rfl 3 rfl ?_
      refine q_ialdN C (k := 74) (n := 12) ⟨by decide, by decide, by decide⟩ (by omega) (by decide) dX3_needsOf_18 ?_
      refine q_stk (st' := [.int (nI h), .int (nI w), .int (nI j)]) (congrArg (fun z => Value.int z :: [.int (nI w), .int (nI j)]) (hmh)) ?_
      refine q_imulN C dX3_needsOf_19  ?_
      refine q_icmp_geN C 64 dX3_needsOf_20 (by decide) (by omega) (by omega) (fun c_20 => ?_) (fun c_20 => ?_)
      · skip
        refine q_iload_n C dX3_needsOf_64 rfl 0 rfl ?_
        refine hR _ _ _ _ _ _ _ ?_ rfl (Nat.le_of_ble_eq_true rfl) (Nat.le_of_ble_eq_true rfl) dX3_needsOf_65
        obtain rfl : j = w * h := by omega
        exact ⟨by rw [hn], rfl, rfl⟩
      · skip
        have hd1 := q_div_lt c_20 (by omega : 0 < w)
        have hd2 := q_mod_lt (k := j) (by omega : 0 < w)
        refine q_iload_n C dX3_needsOf_23 rfl 0 rfl ?_
        refine q_aload_n C dX3_needsOf_24 rfl 2 rfl ?_
        refine q_iload_n C dX3_needsOf_25 rfl 3 rfl ?_
        refine q_iload C dX3_needsOf_26 1 rfl ?_
        refine q_aload_n C dX3_needsOf_28 rfl 2 rfl ?_
        refine q_get C (k := 19) (fi := 8) (.ref (σ.2.1 73)) (by omega) q_enMO rfl iX3_needsOf_X3 (by decide) (by decide +kernel) rfl rfl dX3_needsOf_29 ?_
        refine q_iload_n C dX3_needsOf_32 rfl 3 rfl ?_
        refine q_ialdN C (k := 73) (n := 12) ⟨by decide, by decide, by decide⟩ (by omega) (by decide) dX3_needsOf_33 ?_
        refine q_stk (st' := [.int (nI w), .int (nI j), .int (nI pa), .ref (σ.2.1 19), .int (nI n)]) (congrArg (fun z => Value.int z :: [.int (nI j), .int (nI pa), .ref (σ.2.1 19), .int (nI n)]) (hmw)) ?_
        refine q_iremN C dX3_needsOf_34 (by omega) (by omega) (by omega) ?_
        refine q_iload C dX3_needsOf_35 1 rfl ?_
        refine q_aload_n C dX3_needsOf_37 rfl 2 rfl ?_
        refine q_get C (k := 19) (fi := 8) (.ref (σ.2.1 73)) (by omega) q_enMO rfl iX3_needsOf_X3 (by decide) (by decide +kernel) rfl rfl dX3_needsOf_38 ?_
        refine q_iload_n C dX3_needsOf_41 rfl 3 rfl ?_
        refine q_ialdN C (k := 73) (n := 12) ⟨by decide, by decide, by decide⟩ (by omega) (by decide) dX3_needsOf_42 ?_
        refine q_stk (st' := [.int (nI w), .int (nI j), .int (nI (j % w)), .int (nI pa), .ref (σ.2.1 19), .int (nI n)]) (congrArg (fun z => Value.int z :: [.int (nI j), .int (nI (j % w)), .int (nI pa), .ref (σ.2.1 19), .int (nI n)]) (hmw)) ?_
        refine q_idivN C dX3_needsOf_43 (by omega) (by omega) (by omega) ?_
        refine q_callVi C (As := [.int (nI pa), .int (nI (j % w)), .int (nI (j / w))]) (rest := [.int (nI n)]) (k := 19) (by omega) q_enMO rfl rfl (kX3_at l σ V G (pa := pa) (cn := j % w) (rn := j / w) (by omega) (by omega) (by omega)) 3 gX3_needsOf_X3_at rfl rfl rfl (by decide +kernel) ⟨Nat.le_of_ble_eq_true rfl, Nat.le_of_ble_eq_true rfl⟩ dX3_needsOf_44 rfl (Nat.le_of_ble_eq_true rfl) ⟨Nat.le_of_ble_eq_true rfl, Nat.le_of_ble_eq_true rfl⟩ (fun r_44 V_2 G_3 hq_44 => ?_)
        obtain ⟨rfl, rfl, rfl⟩ := hq_44
        refine q_iload_n C dX3_needsOf_47 rfl 4 rfl ?_
        refine q_icmp_ne C 55 dX3_needsOf_48 (by decide) (fun c_48 => ?_) (fun c_48 => ?_)
        · skip
          refine q_iconst C (nI 0) dX3_needsOf_55 (by decide) ?_
          refine q_iaddN C dX3_needsOf_56  ?_
          refine q_istore_n C [(3, .int (nI (n + 0))), (4, .int (nI j)), (0, .ref (σ.2.1 19)), (1, .int (nI pa)), (2, .int y)] dX3_needsOf_57 rfl (by decide) rfl ?_
          refine q_iincN C [(4, .int (nI (j + 1))), (3, .int (nI (n + 0))), (0, .ref (σ.2.1 19)), (1, .int (nI pa)), (2, .int y)] dX3_needsOf_58 1 rfl (by decide) rfl ?_
          refine q_goto C 5 dX3_needsOf_61 (by decide) ?_
          refine q_sub (lv' := [(3, .int (nI (n + 0))), (4, .int (nI (j + 1))), (0, .ref (σ.2.1 19)), (1, .int (nI pa)), (2, .int y)]) [1, 0, 2, 3, 4] rfl ?_
          exact ihL_1 (j + 1) _ (by omega) (by first | exact hn.trans (q_ct_n (p := q_mneed V pa w y) c_48).symm | (rw [hn]; exact (q_ct_y (p := q_mneed V pa w y) c_48).symm)) (by omega)
        · skip
          refine q_iconst C (nI 1) dX3_needsOf_51 (by decide) ?_
          refine q_goto C 56 dX3_needsOf_52 (by decide) ?_
          refine q_iaddN C dX3_needsOf_56  ?_
          refine q_istore_n C [(3, .int (nI (n + 1))), (4, .int (nI j)), (0, .ref (σ.2.1 19)), (1, .int (nI pa)), (2, .int y)] dX3_needsOf_57 rfl (by decide) rfl ?_
          refine q_iincN C [(4, .int (nI (j + 1))), (3, .int (nI (n + 1))), (0, .ref (σ.2.1 19)), (1, .int (nI pa)), (2, .int y)] dX3_needsOf_58 1 rfl (by decide) rfl ?_
          refine q_goto C 5 dX3_needsOf_61 (by decide) ?_
          refine q_sub (lv' := [(3, .int (nI (n + 1))), (4, .int (nI (j + 1))), (0, .ref (σ.2.1 19)), (1, .int (nI pa)), (2, .int y)]) [1, 0, 2, 3, 4] rfl ?_
          exact ihL_1 (j + 1) _ (by omega) (by first | exact hn.trans (q_ct_n (p := q_mneed V pa w y) c_48).symm | (rw [hn]; exact (q_ct_y (p := q_mneed V pa w y) c_48).symm)) (by omega)
  refine q_sub (lv' := [(3, .int (nI 0)), (4, .int (nI 0)), (0, .ref (σ.2.1 19)), (1, .int (nI pa)), (2, .int y)]) [1, 0, 2, 3, 4] rfl ?_
  exact L_1 _ 0 0 (Nat.zero_le _) rfl (Nat.lt_succ_self _)
abbrev rX3_image : Room := { frames := 2, cells := 0, slots := 0, locals := 35 }
theorem iX3_image_X3 : ∀ w ∈ u_ws RX3 TX3 26, w ∈ wsX3_image := by decide +kernel
set_option maxHeartbeats 4000000 in
set_option maxRecDepth 100000 in
/-- image -/
theorem kX3_image (l : Launch) (σ : q_E) (V : q_V) (G : q_G) {pa w h : Nat} (hp : pa < 12) (hm : q_mok V pa w h) {k cn rn : Nat} (hk : k < 8) (hc : cn < q_ow k w h) (hr : rn < q_oh k w h) : q_Mi l yX3_image wsX3_image rX3_image σ [.ref (σ.2.1 19), .int (nI pa), .int (nI cn), .int (nI rn), .int (nI (k % 4)), .int (nI (if 4 ≤ k then 1 else 0))] V G (fun r V' G' => V 75 (48 * pa + 8 * (q_src k w h cn rn).2 + (q_src k w h cn rn).1) = r ∧ V = V' ∧ G = G') 0 0 := by
  refine q_Mi_of (cc := cX3_image) (maxL := 10) (lv := [(0, .ref (σ.2.1 19)), (1, .int (nI pa)), (2, .int (nI cn)), (3, .int (nI rn)), (4, .int (nI (k % 4))), (5, .int (nI (if 4 ≤ k then 1 else 0)))]) (by decide +kernel) rfl (Nat.le_of_ble_eq_true rfl) rfl ?_
  intro p e s m args below meth c Q C hR
  obtain ⟨hmw, hmh, hw1, hw8, hh1, hh6⟩ := id hm
  have hwh : w * h ≤ 48 := Nat.mul_le_mul hw8 hh6
  refine q_aload_n C dX3_image_0 rfl 0 rfl ?_
  refine q_get C (k := 19) (fi := 8) (.ref (σ.2.1 73)) (by omega) q_enMO rfl iX3_image_X3 (by decide) (by decide +kernel) rfl rfl dX3_image_1 ?_
  refine q_iload_n C dX3_image_4 rfl 1 rfl ?_
  refine q_ialdN C (k := 73) (n := 12) ⟨by decide, by decide, by decide⟩ (by omega) (by decide) dX3_image_5 ?_
  refine q_stk (st' := [.int (nI w)]) (congrArg (fun z => Value.int z :: []) (hmw)) ?_
  refine q_istore C [(6, .int (nI w)), (0, .ref (σ.2.1 19)), (1, .int (nI pa)), (2, .int (nI cn)), (3, .int (nI rn)), (4, .int (nI (k % 4))), (5, .int (nI (if 4 ≤ k then 1 else 0)))] dX3_image_6 (by decide) rfl ?_
  refine q_aload_n C dX3_image_8 rfl 1 rfl ?_
  refine q_get C (k := 19) (fi := 9) (.ref (σ.2.1 74)) (by omega) q_enMO rfl iX3_image_X3 (by decide) (by decide +kernel) rfl rfl dX3_image_9 ?_
  refine q_iload_n C dX3_image_12 rfl 2 rfl ?_
  refine q_ialdN C (k := 74) (n := 12) ⟨by decide, by decide, by decide⟩ (by omega) (by decide) dX3_image_13 ?_
  refine q_stk (st' := [.int (nI h)]) (congrArg (fun z => Value.int z :: []) (hmh)) ?_
  refine q_istore C [(7, .int (nI h)), (6, .int (nI w)), (0, .ref (σ.2.1 19)), (1, .int (nI pa)), (2, .int (nI cn)), (3, .int (nI rn)), (4, .int (nI (k % 4))), (5, .int (nI (if 4 ≤ k then 1 else 0)))] dX3_image_14 (by decide) rfl ?_
  refine q_iload_n C dX3_image_16 rfl 4 rfl ?_
  refine q_istore C [(8, .int (nI cn)), (7, .int (nI h)), (6, .int (nI w)), (0, .ref (σ.2.1 19)), (1, .int (nI pa)), (2, .int (nI cn)), (3, .int (nI rn)), (4, .int (nI (k % 4))), (5, .int (nI (if 4 ≤ k then 1 else 0)))] dX3_image_17 (by decide) rfl ?_
  refine q_iload_n C dX3_image_19 rfl 6 rfl ?_
  refine q_istore C [(9, .int (nI rn)), (8, .int (nI cn)), (7, .int (nI h)), (6, .int (nI w)), (0, .ref (σ.2.1 19)), (1, .int (nI pa)), (2, .int (nI cn)), (3, .int (nI rn)), (4, .int (nI (k % 4))), (5, .int (nI (if 4 ≤ k then 1 else 0)))] dX3_image_20 (by decide) rfl ?_
  refine q_iload C dX3_image_22 8 rfl ?_
  refine q_iconst C (nI 1) dX3_image_24 (by decide) ?_
  refine q_icmp_neN C 42 dX3_image_25 (by decide) (by omega) (by omega) (fun c_25 => ?_) (fun c_25 => ?_)
  · skip
    refine q_iload C dX3_image_42 8 rfl ?_
    refine q_iconst C (nI 2) dX3_image_44 (by decide) ?_
    refine q_icmp_neN C 67 dX3_image_45 (by decide) (by omega) (by omega) (fun c_45 => ?_) (fun c_45 => ?_)
    · skip
      refine q_iload C dX3_image_67 8 rfl ?_
      refine q_iconst C (nI 3) dX3_image_69 (by decide) ?_
      refine q_icmp_neN C 84 dX3_image_70 (by decide) (by omega) (by omega) (fun c_70 => ?_) (fun c_70 => ?_)
      · skip
        have e4 : k % 4 = 0 := by omega
        have hcb : cn < w := by have h9 := hc; rw [q_ow, if_neg (by omega)] at h9; exact h9
        have hrb : rn < h := by have h9 := hr; rw [q_oh, if_neg (by omega)] at h9; exact h9
        refine q_aload_n C dX3_image_84 rfl 4 rfl ?_
        refine q_iload_n C dX3_image_85 rfl 5 rfl ?_
        refine q_iload C dX3_image_86 9 rfl ?_
        refine q_if_eqN C 101 dX3_image_88 (by decide) (by split <;> omega) (fun c_88 => ?_) (fun c_88 => ?_)
        · skip
          have h4 : ¬ 4 ≤ k := fun z => by rw [if_pos z] at c_88; exact absurd c_88 (by decide)
          refine q_iload C dX3_image_101 1 rfl ?_
          refine q_iload C dX3_image_103 0 rfl ?_
          refine q_callVi C (As := [.int (nI pa), .int (nI cn), .int (nI rn)]) (rest := []) (k := 19) (by omega) q_enMO rfl rfl (kX3_at l σ V G (pa := pa) (cn := cn) (rn := rn) (by omega) (by omega) (by omega)) 3 gX3_image_X3_at rfl rfl rfl (by decide +kernel) ⟨Nat.le_of_ble_eq_true rfl, Nat.le_of_ble_eq_true rfl⟩ dX3_image_105 rfl (Nat.le_of_ble_eq_true rfl) ⟨Nat.le_of_ble_eq_true rfl, Nat.le_of_ble_eq_true rfl⟩ (fun r_105 V_1 G_2 hq_105 => ?_)
          obtain ⟨rfl, rfl, rfl⟩ := hq_105
          refine hR _ _ _ _ _ _ _ ?_ rfl (Nat.le_of_ble_eq_true rfl) (Nat.le_of_ble_eq_true rfl) dX3_image_108
          refine ⟨?_, rfl, rfl⟩
          first | (simp [q_src, c_25, h4]; done) | (simp [q_src, c_45, h4]; done) | (simp [q_src, c_70, h4]; done) | (simp [q_src, e4, h4]; done)
        · skip
          have h4 : 4 ≤ k := Decidable.byContradiction fun z => c_88 (by rw [if_neg z])
          refine q_iload C dX3_image_91 3 rfl ?_
          refine q_iconst C (nI 1) dX3_image_93 (by decide) ?_
          refine q_isubN C dX3_image_94 (by omega) ?_
          refine q_iload C dX3_image_95 1 rfl ?_
          refine q_isubN C dX3_image_97 (by omega) ?_
          refine q_goto C 103 dX3_image_98 (by decide) ?_
          refine q_iload C dX3_image_103 0 rfl ?_
          refine q_callVi C (As := [.int (nI pa), .int (nI ((w - 1) - cn)), .int (nI rn)]) (rest := []) (k := 19) (by omega) q_enMO rfl rfl (kX3_at l σ V G (pa := pa) (cn := (w - 1) - cn) (rn := rn) (by omega) (by omega) (by omega)) 3 gX3_image_X3_at rfl rfl rfl (by decide +kernel) ⟨Nat.le_of_ble_eq_true rfl, Nat.le_of_ble_eq_true rfl⟩ dX3_image_105 rfl (Nat.le_of_ble_eq_true rfl) ⟨Nat.le_of_ble_eq_true rfl, Nat.le_of_ble_eq_true rfl⟩ (fun r_105 V_3 G_4 hq_105 => ?_)
          obtain ⟨rfl, rfl, rfl⟩ := hq_105
          refine hR _ _ _ _ _ _ _ ?_ rfl (Nat.le_of_ble_eq_true rfl) (Nat.le_of_ble_eq_true rfl) dX3_image_108
          refine ⟨?_, rfl, rfl⟩
          first | (simp [q_src, c_25, h4]; done) | (simp [q_src, c_45, h4]; done) | (simp [q_src, c_70, h4]; done) | (simp [q_src, e4, h4]; done)
      · skip
        have hcb : cn < h := by have h9 := hc; rw [q_ow, if_pos (by omega)] at h9; exact h9
        have hrb : rn < w := by have h9 := hr; rw [q_oh, if_pos (by omega)] at h9; exact h9
        refine q_iload C dX3_image_73 3 rfl ?_
        refine q_iconst C (nI 1) dX3_image_75 (by decide) ?_
        refine q_isubN C dX3_image_76 (by omega) ?_
        refine q_iload_n C dX3_image_77 rfl 7 rfl ?_
        refine q_isubN C dX3_image_78 (by omega) ?_
        refine q_istore C [(8, .int (nI ((w - 1) - rn))), (9, .int (nI rn)), (7, .int (nI h)), (6, .int (nI w)), (0, .ref (σ.2.1 19)), (1, .int (nI pa)), (2, .int (nI cn)), (3, .int (nI rn)), (4, .int (nI (k % 4))), (5, .int (nI (if 4 ≤ k then 1 else 0)))] dX3_image_79 (by decide) rfl ?_
        refine q_iload_n C dX3_image_81 rfl 6 rfl ?_
        refine q_istore C [(9, .int (nI cn)), (8, .int (nI ((w - 1) - rn))), (7, .int (nI h)), (6, .int (nI w)), (0, .ref (σ.2.1 19)), (1, .int (nI pa)), (2, .int (nI cn)), (3, .int (nI rn)), (4, .int (nI (k % 4))), (5, .int (nI (if 4 ≤ k then 1 else 0)))] dX3_image_82 (by decide) rfl ?_
        refine q_aload_n C dX3_image_84 rfl 4 rfl ?_
        refine q_iload_n C dX3_image_85 rfl 5 rfl ?_
        refine q_iload C dX3_image_86 9 rfl ?_
        refine q_if_eqN C 101 dX3_image_88 (by decide) (by split <;> omega) (fun c_88 => ?_) (fun c_88 => ?_)
        · skip
          have h4 : ¬ 4 ≤ k := fun z => by rw [if_pos z] at c_88; exact absurd c_88 (by decide)
          refine q_iload C dX3_image_101 1 rfl ?_
          refine q_iload C dX3_image_103 0 rfl ?_
          refine q_callVi C (As := [.int (nI pa), .int (nI ((w - 1) - rn)), .int (nI cn)]) (rest := []) (k := 19) (by omega) q_enMO rfl rfl (kX3_at l σ V G (pa := pa) (cn := (w - 1) - rn) (rn := cn) (by omega) (by omega) (by omega)) 3 gX3_image_X3_at rfl rfl rfl (by decide +kernel) ⟨Nat.le_of_ble_eq_true rfl, Nat.le_of_ble_eq_true rfl⟩ dX3_image_105 rfl (Nat.le_of_ble_eq_true rfl) ⟨Nat.le_of_ble_eq_true rfl, Nat.le_of_ble_eq_true rfl⟩ (fun r_105 V_5 G_6 hq_105 => ?_)
          obtain ⟨rfl, rfl, rfl⟩ := hq_105
          refine hR _ _ _ _ _ _ _ ?_ rfl (Nat.le_of_ble_eq_true rfl) (Nat.le_of_ble_eq_true rfl) dX3_image_108
          refine ⟨?_, rfl, rfl⟩
          first | (simp [q_src, c_25, h4]; done) | (simp [q_src, c_45, h4]; done) | (simp [q_src, c_70, h4]; done) | (simp [q_src, e4, h4]; done)
        · skip
          have h4 : 4 ≤ k := Decidable.byContradiction fun z => c_88 (by rw [if_neg z])
          refine q_iload C dX3_image_91 3 rfl ?_
          refine q_iconst C (nI 1) dX3_image_93 (by decide) ?_
          refine q_isubN C dX3_image_94 (by omega) ?_
          refine q_iload C dX3_image_95 1 rfl ?_
          refine q_isubN C dX3_image_97 (by omega) ?_
          refine q_goto C 103 dX3_image_98 (by decide) ?_
          refine q_iload C dX3_image_103 0 rfl ?_
          refine q_callVi C (As := [.int (nI pa), .int (nI ((w - 1) - ((w - 1) - rn))), .int (nI cn)]) (rest := []) (k := 19) (by omega) q_enMO rfl rfl (kX3_at l σ V G (pa := pa) (cn := (w - 1) - ((w - 1) - rn)) (rn := cn) (by omega) (by omega) (by omega)) 3 gX3_image_X3_at rfl rfl rfl (by decide +kernel) ⟨Nat.le_of_ble_eq_true rfl, Nat.le_of_ble_eq_true rfl⟩ dX3_image_105 rfl (Nat.le_of_ble_eq_true rfl) ⟨Nat.le_of_ble_eq_true rfl, Nat.le_of_ble_eq_true rfl⟩ (fun r_105 V_7 G_8 hq_105 => ?_)
          obtain ⟨rfl, rfl, rfl⟩ := hq_105
          refine hR _ _ _ _ _ _ _ ?_ rfl (Nat.le_of_ble_eq_true rfl) (Nat.le_of_ble_eq_true rfl) dX3_image_108
          refine ⟨?_, rfl, rfl⟩
          first | (simp [q_src, c_25, h4]; done) | (simp [q_src, c_45, h4]; done) | (simp [q_src, c_70, h4]; done) | (simp [q_src, e4, h4]; done)
    · skip
      have hcb : cn < w := by have h9 := hc; rw [q_ow, if_neg (by omega)] at h9; exact h9
      have hrb : rn < h := by have h9 := hr; rw [q_oh, if_neg (by omega)] at h9; exact h9
      refine q_iload C dX3_image_48 3 rfl ?_
      refine q_iconst C (nI 1) dX3_image_50 (by decide) ?_
      refine q_isubN C dX3_image_51 (by omega) ?_
      refine q_iload_n C dX3_image_52 rfl 6 rfl ?_
      refine q_isubN C dX3_image_53 (by omega) ?_
      refine q_istore C [(8, .int (nI ((w - 1) - cn))), (9, .int (nI rn)), (7, .int (nI h)), (6, .int (nI w)), (0, .ref (σ.2.1 19)), (1, .int (nI pa)), (2, .int (nI cn)), (3, .int (nI rn)), (4, .int (nI (k % 4))), (5, .int (nI (if 4 ≤ k then 1 else 0)))] dX3_image_54 (by decide) rfl ?_
      refine q_iload C dX3_image_56 2 rfl ?_
      refine q_iconst C (nI 1) dX3_image_58 (by decide) ?_
      refine q_isubN C dX3_image_59 (by omega) ?_
      refine q_iload_n C dX3_image_60 rfl 7 rfl ?_
      refine q_isubN C dX3_image_61 (by omega) ?_
      refine q_istore C [(9, .int (nI ((h - 1) - rn))), (8, .int (nI ((w - 1) - cn))), (7, .int (nI h)), (6, .int (nI w)), (0, .ref (σ.2.1 19)), (1, .int (nI pa)), (2, .int (nI cn)), (3, .int (nI rn)), (4, .int (nI (k % 4))), (5, .int (nI (if 4 ≤ k then 1 else 0)))] dX3_image_62 (by decide) rfl ?_
      refine q_goto C 84 dX3_image_64 (by decide) ?_
      refine q_aload_n C dX3_image_84 rfl 4 rfl ?_
      refine q_iload_n C dX3_image_85 rfl 5 rfl ?_
      refine q_iload C dX3_image_86 9 rfl ?_
      refine q_if_eqN C 101 dX3_image_88 (by decide) (by split <;> omega) (fun c_88 => ?_) (fun c_88 => ?_)
      · skip
        have h4 : ¬ 4 ≤ k := fun z => by rw [if_pos z] at c_88; exact absurd c_88 (by decide)
        refine q_iload C dX3_image_101 1 rfl ?_
        refine q_iload C dX3_image_103 0 rfl ?_
        refine q_callVi C (As := [.int (nI pa), .int (nI ((w - 1) - cn)), .int (nI ((h - 1) - rn))]) (rest := []) (k := 19) (by omega) q_enMO rfl rfl (kX3_at l σ V G (pa := pa) (cn := (w - 1) - cn) (rn := (h - 1) - rn) (by omega) (by omega) (by omega)) 3 gX3_image_X3_at rfl rfl rfl (by decide +kernel) ⟨Nat.le_of_ble_eq_true rfl, Nat.le_of_ble_eq_true rfl⟩ dX3_image_105 rfl (Nat.le_of_ble_eq_true rfl) ⟨Nat.le_of_ble_eq_true rfl, Nat.le_of_ble_eq_true rfl⟩ (fun r_105 V_9 G_10 hq_105 => ?_)
        obtain ⟨rfl, rfl, rfl⟩ := hq_105
        refine hR _ _ _ _ _ _ _ ?_ rfl (Nat.le_of_ble_eq_true rfl) (Nat.le_of_ble_eq_true rfl) dX3_image_108
        refine ⟨?_, rfl, rfl⟩
        first | (simp [q_src, c_25, h4]; done) | (simp [q_src, c_45, h4]; done) | (simp [q_src, c_70, h4]; done) | (simp [q_src, e4, h4]; done)
      · skip
        have h4 : 4 ≤ k := Decidable.byContradiction fun z => c_88 (by rw [if_neg z])
        refine q_iload C dX3_image_91 3 rfl ?_
        refine q_iconst C (nI 1) dX3_image_93 (by decide) ?_
        refine q_isubN C dX3_image_94 (by omega) ?_
        refine q_iload C dX3_image_95 1 rfl ?_
        refine q_isubN C dX3_image_97 (by omega) ?_
        refine q_goto C 103 dX3_image_98 (by decide) ?_
        refine q_iload C dX3_image_103 0 rfl ?_
        refine q_callVi C (As := [.int (nI pa), .int (nI ((w - 1) - ((w - 1) - cn))), .int (nI ((h - 1) - rn))]) (rest := []) (k := 19) (by omega) q_enMO rfl rfl (kX3_at l σ V G (pa := pa) (cn := (w - 1) - ((w - 1) - cn)) (rn := (h - 1) - rn) (by omega) (by omega) (by omega)) 3 gX3_image_X3_at rfl rfl rfl (by decide +kernel) ⟨Nat.le_of_ble_eq_true rfl, Nat.le_of_ble_eq_true rfl⟩ dX3_image_105 rfl (Nat.le_of_ble_eq_true rfl) ⟨Nat.le_of_ble_eq_true rfl, Nat.le_of_ble_eq_true rfl⟩ (fun r_105 V_11 G_12 hq_105 => ?_)
        obtain ⟨rfl, rfl, rfl⟩ := hq_105
        refine hR _ _ _ _ _ _ _ ?_ rfl (Nat.le_of_ble_eq_true rfl) (Nat.le_of_ble_eq_true rfl) dX3_image_108
        refine ⟨?_, rfl, rfl⟩
        first | (simp [q_src, c_25, h4]; done) | (simp [q_src, c_45, h4]; done) | (simp [q_src, c_70, h4]; done) | (simp [q_src, e4, h4]; done)
  · skip
    have hcb : cn < h := by have h9 := hc; rw [q_ow, if_pos (by omega)] at h9; exact h9
    have hrb : rn < w := by have h9 := hr; rw [q_oh, if_pos (by omega)] at h9; exact h9
    refine q_iload_n C dX3_image_28 rfl 7 rfl ?_
    refine q_istore C [(8, .int (nI rn)), (9, .int (nI rn)), (7, .int (nI h)), (6, .int (nI w)), (0, .ref (σ.2.1 19)), (1, .int (nI pa)), (2, .int (nI cn)), (3, .int (nI rn)), (4, .int (nI (k % 4))), (5, .int (nI (if 4 ≤ k then 1 else 0)))] dX3_image_29 (by decide) rfl ?_
    refine q_iload C dX3_image_31 2 rfl ?_
    refine q_iconst C (nI 1) dX3_image_33 (by decide) ?_
    refine q_isubN C dX3_image_34 (by omega) ?_
    refine q_iload_n C dX3_image_35 rfl 6 rfl ?_
    refine q_isubN C dX3_image_36 (by omega) ?_
    refine q_istore C [(9, .int (nI ((h - 1) - cn))), (8, .int (nI rn)), (7, .int (nI h)), (6, .int (nI w)), (0, .ref (σ.2.1 19)), (1, .int (nI pa)), (2, .int (nI cn)), (3, .int (nI rn)), (4, .int (nI (k % 4))), (5, .int (nI (if 4 ≤ k then 1 else 0)))] dX3_image_37 (by decide) rfl ?_
    refine q_goto C 84 dX3_image_39 (by decide) ?_
    refine q_aload_n C dX3_image_84 rfl 4 rfl ?_
    refine q_iload_n C dX3_image_85 rfl 5 rfl ?_
    refine q_iload C dX3_image_86 9 rfl ?_
    refine q_if_eqN C 101 dX3_image_88 (by decide) (by split <;> omega) (fun c_88 => ?_) (fun c_88 => ?_)
    · skip
      have h4 : ¬ 4 ≤ k := fun z => by rw [if_pos z] at c_88; exact absurd c_88 (by decide)
      refine q_iload C dX3_image_101 1 rfl ?_
      refine q_iload C dX3_image_103 0 rfl ?_
      refine q_callVi C (As := [.int (nI pa), .int (nI rn), .int (nI ((h - 1) - cn))]) (rest := []) (k := 19) (by omega) q_enMO rfl rfl (kX3_at l σ V G (pa := pa) (cn := rn) (rn := (h - 1) - cn) (by omega) (by omega) (by omega)) 3 gX3_image_X3_at rfl rfl rfl (by decide +kernel) ⟨Nat.le_of_ble_eq_true rfl, Nat.le_of_ble_eq_true rfl⟩ dX3_image_105 rfl (Nat.le_of_ble_eq_true rfl) ⟨Nat.le_of_ble_eq_true rfl, Nat.le_of_ble_eq_true rfl⟩ (fun r_105 V_13 G_14 hq_105 => ?_)
      obtain ⟨rfl, rfl, rfl⟩ := hq_105
      refine hR _ _ _ _ _ _ _ ?_ rfl (Nat.le_of_ble_eq_true rfl) (Nat.le_of_ble_eq_true rfl) dX3_image_108
      refine ⟨?_, rfl, rfl⟩
      first | (simp [q_src, c_25, h4]; done) | (simp [q_src, c_45, h4]; done) | (simp [q_src, c_70, h4]; done) | (simp [q_src, e4, h4]; done)
    · skip
      have h4 : 4 ≤ k := Decidable.byContradiction fun z => c_88 (by rw [if_neg z])
      refine q_iload C dX3_image_91 3 rfl ?_
      refine q_iconst C (nI 1) dX3_image_93 (by decide) ?_
      refine q_isubN C dX3_image_94 (by omega) ?_
      refine q_iload C dX3_image_95 1 rfl ?_
      refine q_isubN C dX3_image_97 (by omega) ?_
      refine q_goto C 103 dX3_image_98 (by decide) ?_
      refine q_iload C dX3_image_103 0 rfl ?_
      refine q_callVi C (As := [.int (nI pa), .int (nI ((w - 1) - rn)), .int (nI ((h - 1) - cn))]) (rest := []) (k := 19) (by omega) q_enMO rfl rfl (kX3_at l σ V G (pa := pa) (cn := (w - 1) - rn) (rn := (h - 1) - cn) (by omega) (by omega) (by omega)) 3 gX3_image_X3_at rfl rfl rfl (by decide +kernel) ⟨Nat.le_of_ble_eq_true rfl, Nat.le_of_ble_eq_true rfl⟩ dX3_image_105 rfl (Nat.le_of_ble_eq_true rfl) ⟨Nat.le_of_ble_eq_true rfl, Nat.le_of_ble_eq_true rfl⟩ (fun r_105 V_15 G_16 hq_105 => ?_)
      obtain ⟨rfl, rfl, rfl⟩ := hq_105
      refine hR _ _ _ _ _ _ _ ?_ rfl (Nat.le_of_ble_eq_true rfl) (Nat.le_of_ble_eq_true rfl) dX3_image_108
      refine ⟨?_, rfl, rfl⟩
      first | (simp [q_src, c_25, h4]; done) | (simp [q_src, c_45, h4]; done) | (simp [q_src, c_70, h4]; done) | (simp [q_src, e4, h4]; done)
abbrev rX3_isImage : Room := { frames := 3, cells := 0, slots := 0, locals := 64 }
theorem iX3_isImage_X3 : ∀ w ∈ u_ws RX3 TX3 26, w ∈ wsX3_isImage := by decide +kernel
set_option maxHeartbeats 4000000 in
set_option maxRecDepth 100000 in
/-- isImage -/
theorem kX3_isImage (l : Launch) (σ : q_E) (V : q_V) (G : q_G) {o w h pb w2 h2 : Nat} (ho : o < 12) (hm : q_mok V o w h) (hpb : pb < 12) (hm2 : q_mok V pb w2 h2) {k : Nat} (hk : k < 8) : q_Mi l yX3_isImage wsX3_isImage rX3_isImage σ [.ref (σ.2.1 19), .int (nI pb), .int (nI o), .int (nI (k % 4)), .int (nI (if 4 ≤ k then 1 else 0))] V G (fun r V' G' => q_is (q_malike V o w h k pb w2 h2) r ∧ V = V' ∧ G = G') 0 0 := by
  refine q_Mi_of (cc := cX3_isImage) (maxL := 9) (lv := [(0, .ref (σ.2.1 19)), (1, .int (nI pb)), (2, .int (nI o)), (3, .int (nI (k % 4))), (4, .int (nI (if 4 ≤ k then 1 else 0)))]) (by decide +kernel) rfl (Nat.le_of_ble_eq_true rfl) rfl ?_
  intro p e s m args below meth c Q C hR
  obtain ⟨hmw, hmh, hw1, hw8, hh1, hh6⟩ := id hm
  obtain ⟨hmw2, hmh2, hw21, hw28, hh21, hh26⟩ := id hm2
  obtain ⟨hO1, hO2, hO3, hO4, hO5⟩ := q_owoh k hw1 hw8 hh1 hh6
  have J_1 : ∀ (wd hd : Nat) (ewd : wd = q_ow k w h) (ehd : hd = q_oh k w h), q_W σ p l e rX3_isImage s m args below meth c Q 9 0 0 V G [(5, .int (nI wd)), (6, .int (nI hd)), (0, .ref (σ.2.1 19)), (1, .int (nI pb)), (2, .int (nI o)), (3, .int (nI (k % 4))), (4, .int (nI (if 4 ≤ k then 1 else 0)))] 46 [] := by
    intro wd hd ewd ehd
    subst ewd; subst ehd
    have J_2 : ∀ (z : Int32) (hz : (z = 1 ∧ w2 = q_ow k w h ∧ h2 = q_oh k w h) ∨ (z = 0 ∧ ¬ q_malike V o w h k pb w2 h2)), q_W σ p l e rX3_isImage s m args below meth c Q 9 0 0 V G [(7, .int z), (0, .ref (σ.2.1 19)), (1, .int (nI pb)), (2, .int (nI o)), (3, .int (nI (k % 4))), (4, .int (nI (if 4 ≤ k then 1 else 0))), (5, .int (nI (q_ow k w h))), (6, .int (nI (q_oh k w h)))] 75 [] := by
      intro z hz
      refine q_iconst C (nI 0) dX3_isImage_75 (by decide) ?_
      refine q_istore C [(8, .int (nI 0)), (7, .int z), (0, .ref (σ.2.1 19)), (1, .int (nI pb)), (2, .int (nI o)), (3, .int (nI (k % 4))), (4, .int (nI (if 4 ≤ k then 1 else 0))), (5, .int (nI (q_ow k w h))), (6, .int (nI (q_oh k w h)))] dX3_isImage_76 (by decide) rfl ?_
      have L_3 : ∀ (nL_3 : Nat) (j : Nat) (z : Int32) (hj : j ≤ q_ow k w h * q_oh k w h) (hz : (z = 1 ∧ w2 = q_ow k w h ∧ h2 = q_oh k w h ∧ ∀ t, t < j → q_meq V o w h k pb t) ∨ (z = 0 ∧ ¬ q_malike V o w h k pb w2 h2)), q_ow k w h * q_oh k w h - j < nL_3 → q_W σ p l e rX3_isImage s m args below meth c Q 9 0 0 V G [(7, .int z), (8, .int (nI j)), (0, .ref (σ.2.1 19)), (1, .int (nI pb)), (2, .int (nI o)), (3, .int (nI (k % 4))), (4, .int (nI (if 4 ≤ k then 1 else 0))), (5, .int (nI (q_ow k w h))), (6, .int (nI (q_oh k w h)))] 78 [] := by
        intro nL_3
        induction nL_3 with
        | zero => intro j z hj hz h; exact absurd h (Nat.not_lt_zero _)
        | succ nL_3 ihL_3 =>
          intro j z hj hz hmL_3
          refine q_iload C dX3_isImage_78 1 rfl ?_
          refine q_iload C dX3_isImage_80 7 rfl ?_
          refine q_iload C dX3_isImage_82 8 rfl ?_
          refine q_imulN C dX3_isImage_84  ?_
          refine q_icmp_geN C 142 dX3_isImage_85 (by decide) (by omega) (by omega) (fun c_85 => ?_) (fun c_85 => ?_)
          · skip
            refine q_iload C dX3_isImage_142 0 rfl ?_
            refine hR _ _ _ _ _ _ _ ?_ (by rcases hz with ⟨rfl, -⟩ | ⟨rfl, -⟩ <;> rfl) (Nat.le_of_ble_eq_true rfl) (Nat.le_of_ble_eq_true rfl) dX3_isImage_144
            refine ⟨?_, rfl, rfl⟩
            rcases hz with ⟨h0, h1, h2, h3⟩ | ⟨h0, h1⟩
            · rw [h0]; first | exact q_is_y ⟨h1, h2, fun t ht => h3 t (by omega)⟩ | exact absurd c_90 (by rw [h0]; decide)
            · rw [h0]; exact q_is_n h1
          · skip
            have hd1 := q_div_lt c_85 (by omega : 0 < q_ow k w h)
            have hd2 := q_mod_lt (k := j) (by omega : 0 < q_ow k w h)
            refine q_iload C dX3_isImage_88 0 rfl ?_
            refine q_if_eq C 142 dX3_isImage_90 (by decide) (fun c_90 => ?_) (fun c_90 => ?_)
            · skip
              have hz3 := hz.resolve_left (fun q => by rw [q.1] at c_90; exact absurd c_90 (by decide))
              refine q_iload C dX3_isImage_142 0 rfl ?_
              refine hR _ _ _ _ _ _ _ ?_ (by rcases hz with ⟨rfl, -⟩ | ⟨rfl, -⟩ <;> rfl) (Nat.le_of_ble_eq_true rfl) (Nat.le_of_ble_eq_true rfl) dX3_isImage_144
              refine ⟨?_, rfl, rfl⟩
              rcases hz with ⟨h0, h1, h2, h3⟩ | ⟨h0, h1⟩
              · rw [h0]; first | exact q_is_y ⟨h1, h2, fun t ht => h3 t (by omega)⟩ | exact absurd c_90 (by rw [h0]; decide)
              · rw [h0]; exact q_is_n h1
            · skip
              have hz2 := hz.resolve_right (fun q => c_90 q.1)
              refine q_aload_n C dX3_isImage_93 rfl 2 rfl ?_
              refine q_iload_n C dX3_isImage_94 rfl 3 rfl ?_
              refine q_iload C dX3_isImage_95 1 rfl ?_
              refine q_iload C dX3_isImage_97 7 rfl ?_
              refine q_iremN C dX3_isImage_99 (by omega) (by omega) (by omega) ?_
              refine q_iload C dX3_isImage_100 1 rfl ?_
              refine q_iload C dX3_isImage_102 7 rfl ?_
              refine q_idivN C dX3_isImage_104 (by omega) (by omega) (by omega) ?_
              refine q_callVi C (As := [.int (nI pb), .int (nI (j % (q_ow k w h))), .int (nI (j / (q_ow k w h)))]) (rest := []) (k := 19) (by omega) q_enMO rfl rfl (kX3_at l σ V G (pa := pb) (cn := j % (q_ow k w h)) (rn := j / (q_ow k w h)) (by omega) (by omega) (by omega)) 3 gX3_isImage_X3_at rfl rfl rfl (by decide +kernel) ⟨Nat.le_of_ble_eq_true rfl, Nat.le_of_ble_eq_true rfl⟩ dX3_isImage_105 rfl (Nat.le_of_ble_eq_true rfl) ⟨Nat.le_of_ble_eq_true rfl, Nat.le_of_ble_eq_true rfl⟩ (fun r_105 V_4 G_5 hq_105 => ?_)
              obtain ⟨rfl, rfl, rfl⟩ := hq_105
              refine q_aload_n C dX3_isImage_108 rfl 2 rfl ?_
              refine q_iload_n C dX3_isImage_109 rfl 4 rfl ?_
              refine q_iload C dX3_isImage_110 1 rfl ?_
              refine q_iload C dX3_isImage_112 7 rfl ?_
              refine q_iremN C dX3_isImage_114 (by omega) (by omega) (by omega) ?_
              refine q_iload C dX3_isImage_115 1 rfl ?_
              refine q_iload C dX3_isImage_117 7 rfl ?_
              refine q_idivN C dX3_isImage_119 (by omega) (by omega) (by omega) ?_
              refine q_iload_n C dX3_isImage_120 rfl 5 rfl ?_
              refine q_iload C dX3_isImage_121 6 rfl ?_
              refine q_callVi C (As := [.int (nI o), .int (nI (j % (q_ow k w h))), .int (nI (j / (q_ow k w h))), .int (nI (k % 4)), .int (nI (if 4 ≤ k then 1 else 0))]) (rest := [.int (V 75 (48 * pb + 8 * (j / (q_ow k w h)) + (j % (q_ow k w h))))]) (k := 19) (by omega) q_enMO rfl rfl (kX3_image l σ V G ho hm (k := k) (cn := j % (q_ow k w h)) (rn := j / (q_ow k w h)) hk (by omega) (by omega)) 5 gX3_isImage_X3_image rfl rfl rfl (by decide +kernel) ⟨Nat.le_of_ble_eq_true rfl, Nat.le_of_ble_eq_true rfl⟩ dX3_isImage_123 rfl (Nat.le_of_ble_eq_true rfl) ⟨Nat.le_of_ble_eq_true rfl, Nat.le_of_ble_eq_true rfl⟩ (fun r_123 V_6 G_7 hq_123 => ?_)
              obtain ⟨rfl, rfl, rfl⟩ := hq_123
              refine q_icmp_ne C 133 dX3_isImage_126 (by decide) (fun c_126 => ?_) (fun c_126 => ?_)
              · skip
                refine q_iconst C (nI 0) dX3_isImage_133 (by decide) ?_
                refine q_istore C [(7, .int (nI 0)), (8, .int (nI j)), (0, .ref (σ.2.1 19)), (1, .int (nI pb)), (2, .int (nI o)), (3, .int (nI (k % 4))), (4, .int (nI (if 4 ≤ k then 1 else 0))), (5, .int (nI (q_ow k w h))), (6, .int (nI (q_oh k w h)))] dX3_isImage_134 (by decide) rfl ?_
                refine q_iincN C [(8, .int (nI (j + 1))), (7, .int (nI 0)), (0, .ref (σ.2.1 19)), (1, .int (nI pb)), (2, .int (nI o)), (3, .int (nI (k % 4))), (4, .int (nI (if 4 ≤ k then 1 else 0))), (5, .int (nI (q_ow k w h))), (6, .int (nI (q_oh k w h)))] dX3_isImage_136 1 rfl (by decide) rfl ?_
                refine q_goto C 78 dX3_isImage_139 (by decide) ?_
                refine q_sub (lv' := [(7, .int (nI 0)), (8, .int (nI (j + 1))), (0, .ref (σ.2.1 19)), (1, .int (nI pb)), (2, .int (nI o)), (3, .int (nI (k % 4))), (4, .int (nI (if 4 ≤ k then 1 else 0))), (5, .int (nI (q_ow k w h))), (6, .int (nI (q_oh k w h)))]) [1, 0, 2, 3, 4, 5, 6, 7, 8] rfl ?_
                exact ihL_3 (j + 1) _ (by omega) (Or.inr ⟨rfl, fun q => c_126 (q.2.2 j c_85)⟩) (by omega)
              · skip
                refine q_iconst C (nI 1) dX3_isImage_129 (by decide) ?_
                refine q_goto C 134 dX3_isImage_130 (by decide) ?_
                refine q_istore C [(7, .int (nI 1)), (8, .int (nI j)), (0, .ref (σ.2.1 19)), (1, .int (nI pb)), (2, .int (nI o)), (3, .int (nI (k % 4))), (4, .int (nI (if 4 ≤ k then 1 else 0))), (5, .int (nI (q_ow k w h))), (6, .int (nI (q_oh k w h)))] dX3_isImage_134 (by decide) rfl ?_
                refine q_iincN C [(8, .int (nI (j + 1))), (7, .int (nI 1)), (0, .ref (σ.2.1 19)), (1, .int (nI pb)), (2, .int (nI o)), (3, .int (nI (k % 4))), (4, .int (nI (if 4 ≤ k then 1 else 0))), (5, .int (nI (q_ow k w h))), (6, .int (nI (q_oh k w h)))] dX3_isImage_136 1 rfl (by decide) rfl ?_
                refine q_goto C 78 dX3_isImage_139 (by decide) ?_
                refine q_sub (lv' := [(7, .int (nI 1)), (8, .int (nI (j + 1))), (0, .ref (σ.2.1 19)), (1, .int (nI pb)), (2, .int (nI o)), (3, .int (nI (k % 4))), (4, .int (nI (if 4 ≤ k then 1 else 0))), (5, .int (nI (q_ow k w h))), (6, .int (nI (q_oh k w h)))]) [1, 0, 2, 3, 4, 5, 6, 7, 8] rfl ?_
                exact ihL_3 (j + 1) _ (by omega) (Or.inl ⟨rfl, hz2.2.1, hz2.2.2.1, lt_s hz2.2.2.2 c_126⟩) (by omega)
      refine q_sub (lv' := [(7, .int z), (8, .int (nI 0)), (0, .ref (σ.2.1 19)), (1, .int (nI pb)), (2, .int (nI o)), (3, .int (nI (k % 4))), (4, .int (nI (if 4 ≤ k then 1 else 0))), (5, .int (nI (q_ow k w h))), (6, .int (nI (q_oh k w h)))]) [1, 0, 2, 3, 4, 5, 6, 7, 8] rfl ?_
      exact L_3 _ 0 z (Nat.zero_le _) (hz.imp (fun q => ⟨q.1, q.2.1, q.2.2, lt_0⟩) id) (Nat.lt_succ_self _)
    refine q_aload_n C dX3_isImage_46 rfl 2 rfl ?_
    refine q_get C (k := 19) (fi := 8) (.ref (σ.2.1 73)) (by omega) q_enMO rfl iX3_isImage_X3 (by decide) (by decide +kernel) rfl rfl dX3_isImage_47 ?_
    refine q_iload_n C dX3_isImage_50 rfl 3 rfl ?_
    refine q_ialdN C (k := 73) (n := 12) ⟨by decide, by decide, by decide⟩ (by omega) (by decide) dX3_isImage_51 ?_
    refine q_stk (st' := [.int (nI w2)]) (congrArg (fun z => Value.int z :: []) (hmw2)) ?_
    refine q_iload C dX3_isImage_52 0 rfl ?_
    refine q_icmp_neN C 72 dX3_isImage_54 (by decide) (by omega) (by omega) (fun c_54 => ?_) (fun c_54 => ?_)
    · skip
      refine q_iconst C (nI 0) dX3_isImage_72 (by decide) ?_
      refine q_istore C [(7, .int (nI 0)), (5, .int (nI (q_ow k w h))), (6, .int (nI (q_oh k w h))), (0, .ref (σ.2.1 19)), (1, .int (nI pb)), (2, .int (nI o)), (3, .int (nI (k % 4))), (4, .int (nI (if 4 ≤ k then 1 else 0)))] dX3_isImage_73 (by decide) rfl ?_
      refine q_sub (lv' := [(7, .int (nI 0)), (0, .ref (σ.2.1 19)), (1, .int (nI pb)), (2, .int (nI o)), (3, .int (nI (k % 4))), (4, .int (nI (if 4 ≤ k then 1 else 0))), (5, .int (nI (q_ow k w h))), (6, .int (nI (q_oh k w h)))]) [0, 3, 4, 5, 6, 7, 1, 2] rfl ?_
      exact J_2 _ (by first | exact Or.inr ⟨rfl, fun q => c_65 q.2.1⟩ | exact Or.inr ⟨rfl, fun q => c_54 q.1⟩)
    · skip
      refine q_aload_n C dX3_isImage_57 rfl 2 rfl ?_
      refine q_get C (k := 19) (fi := 9) (.ref (σ.2.1 74)) (by omega) q_enMO rfl iX3_isImage_X3 (by decide) (by decide +kernel) rfl rfl dX3_isImage_58 ?_
      refine q_iload_n C dX3_isImage_61 rfl 3 rfl ?_
      refine q_ialdN C (k := 74) (n := 12) ⟨by decide, by decide, by decide⟩ (by omega) (by decide) dX3_isImage_62 ?_
      refine q_stk (st' := [.int (nI h2)]) (congrArg (fun z => Value.int z :: []) (hmh2)) ?_
      refine q_iload C dX3_isImage_63 1 rfl ?_
      refine q_icmp_neN C 72 dX3_isImage_65 (by decide) (by omega) (by omega) (fun c_65 => ?_) (fun c_65 => ?_)
      · skip
        refine q_iconst C (nI 0) dX3_isImage_72 (by decide) ?_
        refine q_istore C [(7, .int (nI 0)), (5, .int (nI (q_ow k w h))), (6, .int (nI (q_oh k w h))), (0, .ref (σ.2.1 19)), (1, .int (nI pb)), (2, .int (nI o)), (3, .int (nI (k % 4))), (4, .int (nI (if 4 ≤ k then 1 else 0)))] dX3_isImage_73 (by decide) rfl ?_
        refine q_sub (lv' := [(7, .int (nI 0)), (0, .ref (σ.2.1 19)), (1, .int (nI pb)), (2, .int (nI o)), (3, .int (nI (k % 4))), (4, .int (nI (if 4 ≤ k then 1 else 0))), (5, .int (nI (q_ow k w h))), (6, .int (nI (q_oh k w h)))]) [0, 3, 4, 5, 6, 7, 1, 2] rfl ?_
        exact J_2 _ (by first | exact Or.inr ⟨rfl, fun q => c_65 q.2.1⟩ | exact Or.inr ⟨rfl, fun q => c_54 q.1⟩)
      · skip
        refine q_iconst C (nI 1) dX3_isImage_68 (by decide) ?_
        refine q_goto C 73 dX3_isImage_69 (by decide) ?_
        refine q_istore C [(7, .int (nI 1)), (5, .int (nI (q_ow k w h))), (6, .int (nI (q_oh k w h))), (0, .ref (σ.2.1 19)), (1, .int (nI pb)), (2, .int (nI o)), (3, .int (nI (k % 4))), (4, .int (nI (if 4 ≤ k then 1 else 0)))] dX3_isImage_73 (by decide) rfl ?_
        refine q_sub (lv' := [(7, .int (nI 1)), (0, .ref (σ.2.1 19)), (1, .int (nI pb)), (2, .int (nI o)), (3, .int (nI (k % 4))), (4, .int (nI (if 4 ≤ k then 1 else 0))), (5, .int (nI (q_ow k w h))), (6, .int (nI (q_oh k w h)))]) [0, 3, 4, 5, 6, 7, 1, 2] rfl ?_
        exact J_2 _ (Or.inl ⟨rfl, c_54, c_65⟩)
  refine q_iload_n C dX3_isImage_0 rfl 3 rfl ?_
  refine q_iconst C (nI 2) dX3_isImage_1 (by decide) ?_
  refine q_iremN C dX3_isImage_2 (by omega) (by omega) (by omega) ?_
  refine q_if_neN C 15 dX3_isImage_3 (by decide) (by omega) (fun c_3 => ?_) (fun c_3 => ?_)
  · skip
    have e9 : k % 2 = 1 := by omega
    have eow : q_ow k w h = h := if_pos e9
    have eoh : q_oh k w h = w := if_pos e9
    refine q_aload_n C dX3_isImage_15 rfl 0 rfl ?_
    refine q_get C (k := 19) (fi := 9) (.ref (σ.2.1 74)) (by omega) q_enMO rfl iX3_isImage_X3 (by decide) (by decide +kernel) rfl rfl dX3_isImage_16 ?_
    refine q_iload_n C dX3_isImage_19 rfl 2 rfl ?_
    refine q_ialdN C (k := 74) (n := 12) ⟨by decide, by decide, by decide⟩ (by omega) (by decide) dX3_isImage_20 ?_
    refine q_stk (st' := [.int (nI h)]) (congrArg (fun z => Value.int z :: []) (hmh)) ?_
    refine q_istore C [(5, .int (nI h)), (0, .ref (σ.2.1 19)), (1, .int (nI pb)), (2, .int (nI o)), (3, .int (nI (k % 4))), (4, .int (nI (if 4 ≤ k then 1 else 0)))] dX3_isImage_21 (by decide) rfl ?_
    refine q_iload_n C dX3_isImage_23 rfl 4 rfl ?_
    refine q_iconst C (nI 2) dX3_isImage_24 (by decide) ?_
    refine q_iremN C dX3_isImage_25 (by omega) (by omega) (by omega) ?_
    refine q_if_neN C 38 dX3_isImage_26 (by decide) (by omega) (fun c_26 => ?_) (fun c_26 => absurd c_26 (by omega))
    refine q_aload_n C dX3_isImage_38 rfl 1 rfl ?_
    refine q_get C (k := 19) (fi := 8) (.ref (σ.2.1 73)) (by omega) q_enMO rfl iX3_isImage_X3 (by decide) (by decide +kernel) rfl rfl dX3_isImage_39 ?_
    refine q_iload_n C dX3_isImage_42 rfl 3 rfl ?_
    refine q_ialdN C (k := 73) (n := 12) ⟨by decide, by decide, by decide⟩ (by omega) (by decide) dX3_isImage_43 ?_
    refine q_stk (st' := [.int (nI w)]) (congrArg (fun z => Value.int z :: []) (hmw)) ?_
    refine q_istore C [(6, .int (nI w)), (5, .int (nI h)), (0, .ref (σ.2.1 19)), (1, .int (nI pb)), (2, .int (nI o)), (3, .int (nI (k % 4))), (4, .int (nI (if 4 ≤ k then 1 else 0)))] dX3_isImage_44 (by decide) rfl ?_
    refine q_sub (lv' := [(5, .int (nI h)), (6, .int (nI w)), (0, .ref (σ.2.1 19)), (1, .int (nI pb)), (2, .int (nI o)), (3, .int (nI (k % 4))), (4, .int (nI (if 4 ≤ k then 1 else 0)))]) [1, 0, 2, 3, 4, 5, 6] rfl ?_
    exact J_1 _ _ eow.symm eoh.symm
  · skip
    have e9 : ¬ k % 2 = 1 := by omega
    have eow : q_ow k w h = w := if_neg e9
    have eoh : q_oh k w h = h := if_neg e9
    refine q_aload_n C dX3_isImage_6 rfl 0 rfl ?_
    refine q_get C (k := 19) (fi := 8) (.ref (σ.2.1 73)) (by omega) q_enMO rfl iX3_isImage_X3 (by decide) (by decide +kernel) rfl rfl dX3_isImage_7 ?_
    refine q_iload_n C dX3_isImage_10 rfl 2 rfl ?_
    refine q_ialdN C (k := 73) (n := 12) ⟨by decide, by decide, by decide⟩ (by omega) (by decide) dX3_isImage_11 ?_
    refine q_stk (st' := [.int (nI w)]) (congrArg (fun z => Value.int z :: []) (hmw)) ?_
    refine q_goto C 21 dX3_isImage_12 (by decide) ?_
    refine q_istore C [(5, .int (nI w)), (0, .ref (σ.2.1 19)), (1, .int (nI pb)), (2, .int (nI o)), (3, .int (nI (k % 4))), (4, .int (nI (if 4 ≤ k then 1 else 0)))] dX3_isImage_21 (by decide) rfl ?_
    refine q_iload_n C dX3_isImage_23 rfl 4 rfl ?_
    refine q_iconst C (nI 2) dX3_isImage_24 (by decide) ?_
    refine q_iremN C dX3_isImage_25 (by omega) (by omega) (by omega) ?_
    refine q_if_neN C 38 dX3_isImage_26 (by decide) (by omega) (fun c_26 => absurd c_26 (by omega)) (fun c_26 => ?_)
    refine q_aload_n C dX3_isImage_29 rfl 1 rfl ?_
    refine q_get C (k := 19) (fi := 9) (.ref (σ.2.1 74)) (by omega) q_enMO rfl iX3_isImage_X3 (by decide) (by decide +kernel) rfl rfl dX3_isImage_30 ?_
    refine q_iload_n C dX3_isImage_33 rfl 3 rfl ?_
    refine q_ialdN C (k := 74) (n := 12) ⟨by decide, by decide, by decide⟩ (by omega) (by decide) dX3_isImage_34 ?_
    refine q_stk (st' := [.int (nI h)]) (congrArg (fun z => Value.int z :: []) (hmh)) ?_
    refine q_goto C 44 dX3_isImage_35 (by decide) ?_
    refine q_istore C [(6, .int (nI h)), (5, .int (nI w)), (0, .ref (σ.2.1 19)), (1, .int (nI pb)), (2, .int (nI o)), (3, .int (nI (k % 4))), (4, .int (nI (if 4 ≤ k then 1 else 0)))] dX3_isImage_44 (by decide) rfl ?_
    refine q_sub (lv' := [(5, .int (nI w)), (6, .int (nI h)), (0, .ref (σ.2.1 19)), (1, .int (nI pb)), (2, .int (nI o)), (3, .int (nI (k % 4))), (4, .int (nI (if 4 ≤ k then 1 else 0)))]) [1, 0, 2, 3, 4, 5, 6] rfl ?_
    exact J_1 _ _ eow.symm eoh.symm
