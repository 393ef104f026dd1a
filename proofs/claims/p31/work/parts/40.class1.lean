abbrev rX2_checkPerson : Room := { frames := 6, cells := 1, slots := 6, locals := 90 }
set_option maxHeartbeats 4000000 in
set_option maxRecDepth 100000 in
/-- checkPerson -/
theorem kX2_checkPerson (l : Launch) (σ : q_E) (V : q_V) (G : q_G) (hlf : l.stackTraces = false) (x : Int32) : q_Xv l yX2_checkPerson wsX2_checkPerson rX2_checkPerson σ [.int x] V G (fun V' G' => (q_ok 7 x) ∧ V = V' ∧ G = G') ((fun E V' G' => xI = E ∧ ¬ (q_ok 7 x) ∧ V = V' ∧ G = G')) 1 6 := by
  refine q_Xv_of (cc := cX2_checkPerson) (maxL := 1) (lv := [(0, .int x)]) (by decide +kernel) rfl (Nat.le_of_ble_eq_true rfl) rfl ?_
  intro p e s m args below meth c Q C hR hO T
  refine q_iload_n C dX2_checkPerson_0 rfl 0 rfl ?_
  refine q_if_lt C 10 dX2_checkPerson_1 (by decide) (fun c_1 => ?_) (fun c_1 => ?_)
  · skip
    refine q_throw C "java/lang/IndexOutOfBoundsException" "no such person" T hlf rfl (by decide +kernel) (by decide +kernel) (by decide +kernel) (by decide +kernel) (by decide +kernel) (by decide +kernel) dX2_checkPerson_10 dX2_checkPerson_13 dX2_checkPerson_14 dX2_checkPerson_16 dX2_checkPerson_19 (Nat.le_of_ble_eq_true rfl) (Nat.le_of_ble_eq_true rfl) (Nat.le_of_ble_eq_true rfl) (Nat.le_of_ble_eq_true rfl) (Nat.le_of_ble_eq_true rfl) (Nat.le_of_ble_eq_true rfl) ?_
    first | exact ⟨rfl, q_ok_neg c_1 (by decide), rfl, rfl⟩ | exact ⟨rfl, q_ok_ge c_7 (by decide), rfl, rfl⟩
  · skip
    refine q_iload_n C dX2_checkPerson_4 rfl 0 rfl ?_
    refine q_bipush C (nI 7) dX2_checkPerson_5 (by decide) ?_
    refine q_icmp_lt C 20 dX2_checkPerson_7 (by decide) (fun c_7 => ?_) (fun c_7 => ?_)
    · skip
      refine hR _ _ _ _ _ _ ?_ (Nat.le_of_ble_eq_true rfl) (Nat.le_of_ble_eq_true rfl) dX2_checkPerson_20
      exact ⟨q_ok_of c_1 c_7 (by decide), rfl, rfl⟩
    · skip
      refine q_throw C "java/lang/IndexOutOfBoundsException" "no such person" T hlf rfl (by decide +kernel) (by decide +kernel) (by decide +kernel) (by decide +kernel) (by decide +kernel) (by decide +kernel) dX2_checkPerson_10 dX2_checkPerson_13 dX2_checkPerson_14 dX2_checkPerson_16 dX2_checkPerson_19 (Nat.le_of_ble_eq_true rfl) (Nat.le_of_ble_eq_true rfl) (Nat.le_of_ble_eq_true rfl) (Nat.le_of_ble_eq_true rfl) (Nat.le_of_ble_eq_true rfl) (Nat.le_of_ble_eq_true rfl) ?_
      first | exact ⟨rfl, q_ok_neg c_1 (by decide), rfl, rfl⟩ | exact ⟨rfl, q_ok_ge c_7 (by decide), rfl, rfl⟩
abbrev rX2_checkColour : Room := { frames := 6, cells := 1, slots := 6, locals := 90 }
set_option maxHeartbeats 4000000 in
set_option maxRecDepth 100000 in
/-- checkColour -/
theorem kX2_checkColour (l : Launch) (σ : q_E) (V : q_V) (G : q_G) (hlf : l.stackTraces = false) (x : Int32) : q_Xv l yX2_checkColour wsX2_checkColour rX2_checkColour σ [.int x] V G (fun V' G' => (q_ok 8 x) ∧ V = V' ∧ G = G') ((fun E V' G' => xI = E ∧ ¬ (q_ok 8 x) ∧ V = V' ∧ G = G')) 1 6 := by
  refine q_Xv_of (cc := cX2_checkColour) (maxL := 1) (lv := [(0, .int x)]) (by decide +kernel) rfl (Nat.le_of_ble_eq_true rfl) rfl ?_
  intro p e s m args below meth c Q C hR hO T
  refine q_iload_n C dX2_checkColour_0 rfl 0 rfl ?_
  refine q_if_lt C 10 dX2_checkColour_1 (by decide) (fun c_1 => ?_) (fun c_1 => ?_)
  · skip
    refine q_throw C "java/lang/IndexOutOfBoundsException" "no such colour" T hlf rfl (by decide +kernel) (by decide +kernel) (by decide +kernel) (by decide +kernel) (by decide +kernel) (by decide +kernel) dX2_checkColour_10 dX2_checkColour_13 dX2_checkColour_14 dX2_checkColour_16 dX2_checkColour_19 (Nat.le_of_ble_eq_true rfl) (Nat.le_of_ble_eq_true rfl) (Nat.le_of_ble_eq_true rfl) (Nat.le_of_ble_eq_true rfl) (Nat.le_of_ble_eq_true rfl) (Nat.le_of_ble_eq_true rfl) ?_
    first | exact ⟨rfl, q_ok_neg c_1 (by decide), rfl, rfl⟩ | exact ⟨rfl, q_ok_ge c_7 (by decide), rfl, rfl⟩
  · skip
    refine q_iload_n C dX2_checkColour_4 rfl 0 rfl ?_
    refine q_bipush C (nI 8) dX2_checkColour_5 (by decide) ?_
    refine q_icmp_lt C 20 dX2_checkColour_7 (by decide) (fun c_7 => ?_) (fun c_7 => ?_)
    · skip
      refine hR _ _ _ _ _ _ ?_ (Nat.le_of_ble_eq_true rfl) (Nat.le_of_ble_eq_true rfl) dX2_checkColour_20
      exact ⟨q_ok_of c_1 c_7 (by decide), rfl, rfl⟩
    · skip
      refine q_throw C "java/lang/IndexOutOfBoundsException" "no such colour" T hlf rfl (by decide +kernel) (by decide +kernel) (by decide +kernel) (by decide +kernel) (by decide +kernel) (by decide +kernel) dX2_checkColour_10 dX2_checkColour_13 dX2_checkColour_14 dX2_checkColour_16 dX2_checkColour_19 (Nat.le_of_ble_eq_true rfl) (Nat.le_of_ble_eq_true rfl) (Nat.le_of_ble_eq_true rfl) (Nat.le_of_ble_eq_true rfl) (Nat.le_of_ble_eq_true rfl) (Nat.le_of_ble_eq_true rfl) ?_
      first | exact ⟨rfl, q_ok_neg c_1 (by decide), rfl, rfl⟩ | exact ⟨rfl, q_ok_ge c_7 (by decide), rfl, rfl⟩
abbrev rX2_checkRange : Room := { frames := 6, cells := 1, slots := 6, locals := 90 }
set_option maxHeartbeats 4000000 in
set_option maxRecDepth 100000 in
/-- checkRange -/
theorem kX2_checkRange (l : Launch) (σ : q_E) (V : q_V) (G : q_G) (hlf : l.stackTraces = false) (x lo hi : Int32) : q_Xv l yX2_checkRange wsX2_checkRange rX2_checkRange σ [.int x, .int lo, .int hi] V G (fun V' G' => (¬ x < lo ∧ ¬ hi < x) ∧ V = V' ∧ G = G') ((fun E V' G' => xA = E ∧ ¬ (¬ x < lo ∧ ¬ hi < x) ∧ V = V' ∧ G = G')) 1 6 := by
  refine q_Xv_of (cc := cX2_checkRange) (maxL := 3) (lv := [(0, .int x), (1, .int lo), (2, .int hi)]) (by decide +kernel) rfl (Nat.le_of_ble_eq_true rfl) rfl ?_
  intro p e s m args below meth c Q C hR hO T
  refine q_iload_n C dX2_checkRange_0 rfl 0 rfl ?_
  refine q_iload_n C dX2_checkRange_1 rfl 1 rfl ?_
  refine q_icmp_lt C 10 dX2_checkRange_2 (by decide) (fun c_2 => ?_) (fun c_2 => ?_)
  · skip
    refine q_throw C "java/lang/IllegalArgumentException" "out of its range" T hlf rfl (by decide +kernel) (by decide +kernel) (by decide +kernel) (by decide +kernel) (by decide +kernel) (by decide +kernel) dX2_checkRange_10 dX2_checkRange_13 dX2_checkRange_14 dX2_checkRange_16 dX2_checkRange_19 (Nat.le_of_ble_eq_true rfl) (Nat.le_of_ble_eq_true rfl) (Nat.le_of_ble_eq_true rfl) (Nat.le_of_ble_eq_true rfl) (Nat.le_of_ble_eq_true rfl) (Nat.le_of_ble_eq_true rfl) ?_
    first | exact ⟨rfl, fun z => z.1 c_2, rfl, rfl⟩ | exact ⟨rfl, fun z => c_7 (Int32.not_lt.mp z.2), rfl, rfl⟩
  · skip
    refine q_iload_n C dX2_checkRange_5 rfl 0 rfl ?_
    refine q_iload_n C dX2_checkRange_6 rfl 2 rfl ?_
    refine q_icmp_le C 20 dX2_checkRange_7 (by decide) (fun c_7 => ?_) (fun c_7 => ?_)
    · skip
      refine hR _ _ _ _ _ _ ?_ (Nat.le_of_ble_eq_true rfl) (Nat.le_of_ble_eq_true rfl) dX2_checkRange_20
      exact ⟨⟨c_2, Int32.not_lt.mpr c_7⟩, rfl, rfl⟩
    · skip
      refine q_throw C "java/lang/IllegalArgumentException" "out of its range" T hlf rfl (by decide +kernel) (by decide +kernel) (by decide +kernel) (by decide +kernel) (by decide +kernel) (by decide +kernel) dX2_checkRange_10 dX2_checkRange_13 dX2_checkRange_14 dX2_checkRange_16 dX2_checkRange_19 (Nat.le_of_ble_eq_true rfl) (Nat.le_of_ble_eq_true rfl) (Nat.le_of_ble_eq_true rfl) (Nat.le_of_ble_eq_true rfl) (Nat.le_of_ble_eq_true rfl) (Nat.le_of_ble_eq_true rfl) ?_
      first | exact ⟨rfl, fun z => z.1 c_2, rfl, rfl⟩ | exact ⟨rfl, fun z => c_7 (Int32.not_lt.mp z.2), rfl, rfl⟩
abbrev rX2_checkPattern : Room := { frames := 6, cells := 1, slots := 6, locals := 90 }
theorem iX2_checkPattern_X2 : ∀ w ∈ u_ws RX2 TX2 15, w ∈ wsX2_checkPattern := by decide +kernel
set_option maxHeartbeats 4000000 in
set_option maxRecDepth 100000 in
/-- checkPattern -/
theorem kX2_checkPattern (l : Launch) (σ : q_E) (V : q_V) (G : q_G) (hlf : l.stackTraces = false) {n : Nat} (hn : V 0 6 = nI n) (hn2 : n ≤ 12) (x : Int32) : q_Xv l yX2_checkPattern wsX2_checkPattern rX2_checkPattern σ [.ref (σ.2.1 0), .int x] V G (fun V' G' => (q_ok n x) ∧ V = V' ∧ G = G') ((fun E V' G' => xI = E ∧ ¬ (q_ok n x) ∧ V = V' ∧ G = G')) 1 6 := by
  refine q_Xv_of (cc := cX2_checkPattern) (maxL := 2) (lv := [(0, .ref (σ.2.1 0)), (1, .int x)]) (by decide +kernel) rfl (Nat.le_of_ble_eq_true rfl) rfl ?_
  intro p e s m args below meth c Q C hR hO T
  refine q_iload_n C dX2_checkPattern_0 rfl 1 rfl ?_
  refine q_if_lt C 12 dX2_checkPattern_1 (by decide) (fun c_1 => ?_) (fun c_1 => ?_)
  · skip
    refine q_throw C "java/lang/IndexOutOfBoundsException" "no such pattern" T hlf rfl (by decide +kernel) (by decide +kernel) (by decide +kernel) (by decide +kernel) (by decide +kernel) (by decide +kernel) dX2_checkPattern_12 dX2_checkPattern_15 dX2_checkPattern_16 dX2_checkPattern_18 dX2_checkPattern_21 (Nat.le_of_ble_eq_true rfl) (Nat.le_of_ble_eq_true rfl) (Nat.le_of_ble_eq_true rfl) (Nat.le_of_ble_eq_true rfl) (Nat.le_of_ble_eq_true rfl) (Nat.le_of_ble_eq_true rfl) ?_
    first | exact ⟨rfl, q_ok_neg c_1 (by omega), rfl, rfl⟩ | exact ⟨rfl, q_ok_ge c_9 (by omega), rfl, rfl⟩
  · skip
    refine q_iload_n C dX2_checkPattern_4 rfl 1 rfl ?_
    refine q_aload_n C dX2_checkPattern_5 rfl 0 rfl ?_
    refine q_get C (k := 0) (fi := 6) (.int (nI n)) (by omega) q_enBP rfl iX2_checkPattern_X2 (by decide) (by decide +kernel) rfl (congrArg (fun z => some (Value.int z)) (hn)) dX2_checkPattern_6 ?_
    refine q_icmp_lt C 22 dX2_checkPattern_9 (by decide) (fun c_9 => ?_) (fun c_9 => ?_)
    · skip
      refine hR _ _ _ _ _ _ ?_ (Nat.le_of_ble_eq_true rfl) (Nat.le_of_ble_eq_true rfl) dX2_checkPattern_22
      exact ⟨q_ok_of c_1 c_9 (by omega), rfl, rfl⟩
    · skip
      refine q_throw C "java/lang/IndexOutOfBoundsException" "no such pattern" T hlf rfl (by decide +kernel) (by decide +kernel) (by decide +kernel) (by decide +kernel) (by decide +kernel) (by decide +kernel) dX2_checkPattern_12 dX2_checkPattern_15 dX2_checkPattern_16 dX2_checkPattern_18 dX2_checkPattern_21 (Nat.le_of_ble_eq_true rfl) (Nat.le_of_ble_eq_true rfl) (Nat.le_of_ble_eq_true rfl) (Nat.le_of_ble_eq_true rfl) (Nat.le_of_ble_eq_true rfl) (Nat.le_of_ble_eq_true rfl) ?_
      first | exact ⟨rfl, q_ok_neg c_1 (by omega), rfl, rfl⟩ | exact ⟨rfl, q_ok_ge c_9 (by omega), rfl, rfl⟩
abbrev rX2_isBelt : Room := { frames := 1, cells := 0, slots := 0, locals := 12 }
theorem iX2_isBelt_X2 : ∀ w ∈ u_ws RX2 TX2 15, w ∈ wsX2_isBelt := by decide +kernel
set_option maxHeartbeats 4000000 in
set_option maxRecDepth 100000 in
/-- isBelt -/
theorem kX2_isBelt (l : Launch) (σ : q_E) (V : q_V) (G : q_G) (x : Int32) : q_Mi l yX2_isBelt wsX2_isBelt rX2_isBelt σ [.ref (σ.2.1 0), .int x] V G (fun r V' G' => q_is (q_cisb V x) r ∧ V = V' ∧ G = G') 0 0 := by
  refine q_Mi_of (cc := cX2_isBelt) (maxL := 2) (lv := [(0, .ref (σ.2.1 0)), (1, .int x)]) (by decide +kernel) rfl (Nat.le_of_ble_eq_true rfl) rfl ?_
  intro p e s m args below meth c Q C hR
  refine q_iload_n C dX2_isBelt_0 rfl 1 rfl ?_
  refine q_if_lt C 24 dX2_isBelt_1 (by decide) (fun c_1 => ?_) (fun c_1 => ?_)
  · skip
    refine q_iconst C (nI 0) dX2_isBelt_24 (by decide) ?_
    refine hR _ _ _ _ _ _ _ ?_ (by first | rfl | decide) (Nat.le_of_ble_eq_true rfl) (Nat.le_of_ble_eq_true rfl) dX2_isBelt_25
    first | exact ⟨q_is_n (fun ⟨j, hj, e, h⟩ => h (q_nI_inj e (by omega) (by omega) ▸ c_17)), rfl, rfl⟩ | exact ⟨q_is_n (fun ⟨j, hj, e, h⟩ => q_ok_ge2 c_7 (by decide) ⟨j, hj, e⟩), rfl, rfl⟩ | exact ⟨q_is_n (fun ⟨j, hj, e, h⟩ => q_ok_neg (n := 20) c_1 (by decide) ⟨j, hj, e⟩), rfl, rfl⟩
  · skip
    refine q_iload_n C dX2_isBelt_4 rfl 1 rfl ?_
    refine q_bipush C (nI 20) dX2_isBelt_5 (by decide) ?_
    refine q_icmp_ge C 24 dX2_isBelt_7 (by decide) (fun c_7 => ?_) (fun c_7 => ?_)
    · skip
      refine q_iconst C (nI 0) dX2_isBelt_24 (by decide) ?_
      refine hR _ _ _ _ _ _ _ ?_ (by first | rfl | decide) (Nat.le_of_ble_eq_true rfl) (Nat.le_of_ble_eq_true rfl) dX2_isBelt_25
      first | exact ⟨q_is_n (fun ⟨j, hj, e, h⟩ => h (q_nI_inj e (by omega) (by omega) ▸ c_17)), rfl, rfl⟩ | exact ⟨q_is_n (fun ⟨j, hj, e, h⟩ => q_ok_ge2 c_7 (by decide) ⟨j, hj, e⟩), rfl, rfl⟩ | exact ⟨q_is_n (fun ⟨j, hj, e, h⟩ => q_ok_neg (n := 20) c_1 (by decide) ⟨j, hj, e⟩), rfl, rfl⟩
    · skip
      obtain ⟨b, hb, rfl⟩ := q_ok_of2 c_1 c_7 (by decide)
      refine q_aload_n C dX2_isBelt_10 rfl 0 rfl ?_
      refine q_get C (k := 0) (fi := 7) (.ref (σ.2.1 6)) (by omega) q_enBP rfl iX2_isBelt_X2 (by decide) (by decide +kernel) rfl rfl dX2_isBelt_11 ?_
      refine q_iload_n C dX2_isBelt_14 rfl 1 rfl ?_
      refine q_ialdN C (k := 6) (n := 20) ⟨by decide, by decide, by decide⟩ (by omega) (by decide) dX2_isBelt_15 ?_
      refine q_iconst C ((-1)) dX2_isBelt_16 (by decide) ?_
      refine q_icmp_eq C 24 dX2_isBelt_17 (by decide) (fun c_17 => ?_) (fun c_17 => ?_)
      · skip
        refine q_iconst C (nI 0) dX2_isBelt_24 (by decide) ?_
        refine hR _ _ _ _ _ _ _ ?_ (by first | rfl | decide) (Nat.le_of_ble_eq_true rfl) (Nat.le_of_ble_eq_true rfl) dX2_isBelt_25
        first | exact ⟨q_is_n (fun ⟨j, hj, e, h⟩ => h (q_nI_inj e (by omega) (by omega) ▸ c_17)), rfl, rfl⟩ | exact ⟨q_is_n (fun ⟨j, hj, e, h⟩ => q_ok_ge2 c_7 (by decide) ⟨j, hj, e⟩), rfl, rfl⟩ | exact ⟨q_is_n (fun ⟨j, hj, e, h⟩ => q_ok_neg (n := 20) c_1 (by decide) ⟨j, hj, e⟩), rfl, rfl⟩
      · skip
        refine q_iconst C (nI 1) dX2_isBelt_20 (by decide) ?_
        refine q_goto C 25 dX2_isBelt_21 (by decide) ?_
        refine hR _ _ _ _ _ _ _ ?_ (by first | rfl | decide) (Nat.le_of_ble_eq_true rfl) (Nat.le_of_ble_eq_true rfl) dX2_isBelt_25
        exact ⟨q_is_y ⟨b, hb, rfl, c_17⟩, rfl, rfl⟩
abbrev rX2_checkBelt : Room := { frames := 6, cells := 1, slots := 6, locals := 90 }
set_option maxHeartbeats 4000000 in
set_option maxRecDepth 100000 in
/-- checkBelt -/
theorem kX2_checkBelt (l : Launch) (σ : q_E) (V : q_V) (G : q_G) (hlf : l.stackTraces = false) (x : Int32) : q_Xv l yX2_checkBelt wsX2_checkBelt rX2_checkBelt σ [.ref (σ.2.1 0), .int x] V G (fun V' G' => (q_cisb V x) ∧ V = V' ∧ G = G') ((fun E V' G' => xI = E ∧ ¬ (q_cisb V x) ∧ V = V' ∧ G = G')) 1 6 := by
  refine q_Xv_of (cc := cX2_checkBelt) (maxL := 2) (lv := [(0, .ref (σ.2.1 0)), (1, .int x)]) (by decide +kernel) rfl (Nat.le_of_ble_eq_true rfl) rfl ?_
  intro p e s m args below meth c Q C hR hO T
  refine q_aload_n C dX2_checkBelt_0 rfl 0 rfl ?_
  refine q_iload_n C dX2_checkBelt_1 rfl 1 rfl ?_
  refine q_callVi C (As := [.int x]) (rest := []) (k := 0) (by omega) q_enBP rfl rfl (kX2_isBelt l σ V G x) 1 gX2_checkBelt_X2_isBelt rfl rfl rfl (by decide +kernel) ⟨Nat.le_of_ble_eq_true rfl, Nat.le_of_ble_eq_true rfl⟩ dX2_checkBelt_2 rfl (Nat.le_of_ble_eq_true rfl) ⟨Nat.le_of_ble_eq_true rfl, Nat.le_of_ble_eq_true rfl⟩ (fun r_2 V_1 G_2 hq_2 => ?_)
  obtain ⟨hs_2, rfl, rfl⟩ := hq_2
  refine q_if_ne C 18 dX2_checkBelt_5 (by decide) (fun c_5 => ?_) (fun c_5 => ?_)
  · skip
    have b_2 := (q_is_ne hs_2).mp c_5
    refine hR _ _ _ _ _ _ ?_ (Nat.le_of_ble_eq_true rfl) (Nat.le_of_ble_eq_true rfl) dX2_checkBelt_18
    exact ⟨b_2, rfl, rfl⟩
  · skip
    have b_2 := (q_is_eq hs_2).mp c_5
    refine q_throw C "java/lang/IndexOutOfBoundsException" "no such belt" T hlf rfl (by decide +kernel) (by decide +kernel) (by decide +kernel) (by decide +kernel) (by decide +kernel) (by decide +kernel) dX2_checkBelt_8 dX2_checkBelt_11 dX2_checkBelt_12 dX2_checkBelt_14 dX2_checkBelt_17 (Nat.le_of_ble_eq_true rfl) (Nat.le_of_ble_eq_true rfl) (Nat.le_of_ble_eq_true rfl) (Nat.le_of_ble_eq_true rfl) (Nat.le_of_ble_eq_true rfl) (Nat.le_of_ble_eq_true rfl) ?_
    exact ⟨rfl, b_2, rfl, rfl⟩
abbrev rX2_lowestFreeBelt : Room := { frames := 2, cells := 0, slots := 0, locals := 33 }
set_option maxHeartbeats 4000000 in
set_option maxRecDepth 100000 in
/-- lowestFreeBelt -/
theorem kX2_lowestFreeBelt (l : Launch) (σ : q_E) (V : q_V) (G : q_G) : q_Mi l yX2_lowestFreeBelt wsX2_lowestFreeBelt rX2_lowestFreeBelt σ [.ref (σ.2.1 0)] V G (fun r V' G' => ((∃ k, k < 20 ∧ (∀ b, b < k → ¬ V 6 b = -1) ∧ V 6 k = -1 ∧ nI k = r) ∨ ((∀ b, b < 20 → ¬ V 6 b = -1) ∧ (-1 : Int32) = r)) ∧ V = V' ∧ G = G') 0 0 := by
  refine q_Mi_of (cc := cX2_lowestFreeBelt) (maxL := 2) (lv := [(0, .ref (σ.2.1 0))]) (by decide +kernel) rfl (Nat.le_of_ble_eq_true rfl) rfl ?_
  intro p e s m args below meth c Q C hR
  refine q_iconst C (nI 0) dX2_lowestFreeBelt_0 (by decide) ?_
  refine q_istore_n C [(1, .int (nI 0)), (0, .ref (σ.2.1 0))] dX2_lowestFreeBelt_1 rfl (by decide) rfl ?_
  have L_1 : ∀ (nL_1 : Nat) (j : Nat) (hj : j ≤ 20) (ha : ∀ b, b < j → ¬ V 6 b = -1), 20 - j < nL_1 → q_W σ p l e rX2_lowestFreeBelt s m args below meth c Q 2 0 0 V G [(1, .int (nI j)), (0, .ref (σ.2.1 0))] 2 [] := by
    intro nL_1
    induction nL_1 with
    | zero => intro j hj ha h; exact absurd h (Nat.not_lt_zero _)
    | succ nL_1 ihL_1 =>
      intro j hj ha hmL_1
      refine q_iload_n C dX2_lowestFreeBelt_2 rfl 0 rfl ?_
      refine q_bipush C (nI 20) dX2_lowestFreeBelt_3 (by decide) ?_
      refine q_icmp_geN C 24 dX2_lowestFreeBelt_5 (by decide) (by omega) (by omega) (fun c_5 => ?_) (fun c_5 => ?_)
      · skip
        refine q_iconst C ((-1)) dX2_lowestFreeBelt_24 (by decide) ?_
        refine hR _ _ _ _ _ _ _ ?_ rfl (Nat.le_of_ble_eq_true rfl) (Nat.le_of_ble_eq_true rfl) dX2_lowestFreeBelt_25
        exact ⟨Or.inr ⟨fun b hb => ha b (by omega), rfl⟩, rfl, rfl⟩
      · skip
        refine q_aload_n C dX2_lowestFreeBelt_8 rfl 1 rfl ?_
        refine q_iload_n C dX2_lowestFreeBelt_9 rfl 0 rfl ?_
        refine q_callVi C (As := [.int (nI j)]) (rest := []) (k := 0) (by omega) q_enBP rfl rfl (kX2_isBelt l σ V G (nI j)) 1 gX2_lowestFreeBelt_X2_isBelt rfl rfl rfl (by decide +kernel) ⟨Nat.le_of_ble_eq_true rfl, Nat.le_of_ble_eq_true rfl⟩ dX2_lowestFreeBelt_10 rfl (Nat.le_of_ble_eq_true rfl) ⟨Nat.le_of_ble_eq_true rfl, Nat.le_of_ble_eq_true rfl⟩ (fun r_10 V_2 G_3 hq_10 => ?_)
        obtain ⟨hs_10, rfl, rfl⟩ := hq_10
        refine q_if_ne C 18 dX2_lowestFreeBelt_13 (by decide) (fun c_13 => ?_) (fun c_13 => ?_)
        · skip
          have b_10 := (q_is_ne hs_10).mp c_13
          have hb9 : ¬ V 6 j = -1 := by
            obtain ⟨b, hb, e9, h9⟩ := b_10
            rw [q_nI_inj e9 (by omega) (by omega)]
            exact h9
          refine q_iincN C [(1, .int (nI (j + 1))), (0, .ref (σ.2.1 0))] dX2_lowestFreeBelt_18 0 rfl (by decide) rfl ?_
          refine q_goto C 2 dX2_lowestFreeBelt_21 (by decide) ?_
          refine q_sub (lv' := [(1, .int (nI (j + 1))), (0, .ref (σ.2.1 0))]) [0, 1] rfl ?_
          exact ihL_1 (j + 1) (by omega) (lt_s ha hb9) (by omega)
        · skip
          have b_10 := (q_is_eq hs_10).mp c_13
          have hb9 : V 6 j = -1 := Classical.byContradiction fun z => b_10 ⟨j, by omega, rfl, z⟩
          refine q_iload_n C dX2_lowestFreeBelt_16 rfl 0 rfl ?_
          refine hR _ _ _ _ _ _ _ ?_ rfl (Nat.le_of_ble_eq_true rfl) (Nat.le_of_ble_eq_true rfl) dX2_lowestFreeBelt_17
          exact ⟨Or.inl ⟨j, by omega, ha, hb9, rfl⟩, rfl, rfl⟩
  refine q_sub (lv' := [(1, .int (nI 0)), (0, .ref (σ.2.1 0))]) [0, 1] rfl ?_
  exact L_1 _ 0 (Nat.zero_le _) lt_0 (Nat.lt_succ_self _)
abbrev rX2_originOf : Room := { frames := 4, cells := 0, slots := 0, locals := 84 }
theorem iX2_originOf_X2 : ∀ w ∈ u_ws RX2 TX2 15, w ∈ wsX2_originOf := by decide +kernel
set_option maxHeartbeats 4000000 in
set_option maxRecDepth 100000 in
/-- originOf -/
theorem kX2_originOf (l : Launch) (σ : q_E) (V : q_V) (G : q_G) {n : Nat} (hn2 : n ≤ 12) (hp : q_cpats V n) {pa : Nat} (hpa : pa < n) : q_Mi l yX2_originOf wsX2_originOf rX2_originOf σ [.ref (σ.2.1 0), .int (nI pa)] V G (fun r V' G' => (∃ o, q_corg V pa o ∧ nI o = r) ∧ V = V' ∧ G = G') 0 0 := by
  refine q_Mi_of (cc := cX2_originOf) (maxL := 4) (lv := [(0, .ref (σ.2.1 0)), (1, .int (nI pa))]) (by decide +kernel) rfl (Nat.le_of_ble_eq_true rfl) rfl ?_
  intro p e s m args below meth c Q C hR
  refine q_iconst C (nI 0) dX2_originOf_0 (by decide) ?_
  refine q_istore_n C [(2, .int (nI 0)), (0, .ref (σ.2.1 0)), (1, .int (nI pa))] dX2_originOf_1 rfl (by decide) rfl ?_
  have L_1 : ∀ (nL_1 : Nat) (lo : Nat) (hlo : lo ≤ pa) (hno : ∀ o', o' < lo → ¬ ∃ k, k < 8 ∧ q_calk V pa o' k), pa - lo < nL_1 → q_W σ p l e rX2_originOf s m args below meth c Q 4 0 0 V G [(2, .int (nI lo)), (0, .ref (σ.2.1 0)), (1, .int (nI pa))] 2 [] := by
    intro nL_1
    induction nL_1 with
    | zero => intro lo hlo hno h; exact absurd h (Nat.not_lt_zero _)
    | succ nL_1 ihL_1 =>
      intro lo hlo hno hmL_1
      refine q_iload_n C dX2_originOf_2 rfl 0 rfl ?_
      refine q_iload_n C dX2_originOf_3 rfl 2 rfl ?_
      refine q_icmp_geN C 48 dX2_originOf_4 (by decide) (by omega) (by omega) (fun c_4 => ?_) (fun c_4 => ?_)
      · skip
        refine q_iload_n C dX2_originOf_48 rfl 2 rfl ?_
        refine hR _ _ _ _ _ _ _ ?_ rfl (Nat.le_of_ble_eq_true rfl) (Nat.le_of_ble_eq_true rfl) dX2_originOf_49
        obtain rfl : lo = pa := by omega
        exact ⟨⟨_, ⟨Nat.le_refl _, fun z => absurd z (Nat.lt_irrefl _), hno⟩, rfl⟩, rfl, rfl⟩
      · skip
        refine q_iconst C (nI 0) dX2_originOf_7 (by decide) ?_
        refine q_istore_n C [(3, .int (nI 0)), (2, .int (nI lo)), (0, .ref (σ.2.1 0)), (1, .int (nI pa))] dX2_originOf_8 rfl (by decide) rfl ?_
        have L_2 : ∀ (nL_2 : Nat) (k : Nat) (hk : k ≤ 8) (hk0 : ∀ k9, k9 < k → ¬ q_calk V pa lo k9), 8 - k < nL_2 → q_W σ p l e rX2_originOf s m args below meth c Q 4 0 0 V G [(3, .int (nI k)), (0, .ref (σ.2.1 0)), (1, .int (nI pa)), (2, .int (nI lo))] 9 [] := by
          intro nL_2
          induction nL_2 with
          | zero => intro k hk hk0 h; exact absurd h (Nat.not_lt_zero _)
          | succ nL_2 ihL_2 =>
            intro k hk hk0 hmL_2
            refine q_iload_n C dX2_originOf_9 rfl 0 rfl ?_
            refine q_bipush C (nI 8) dX2_originOf_10 (by decide) ?_
            refine q_icmp_geN C 42 dX2_originOf_12 (by decide) (by omega) (by omega) (fun c_12 => ?_) (fun c_12 => ?_)
            · skip
              refine q_iincN C [(2, .int (nI (lo + 1))), (3, .int (nI k)), (0, .ref (σ.2.1 0)), (1, .int (nI pa))] dX2_originOf_42 3 rfl (by decide) rfl ?_
              refine q_goto C 2 dX2_originOf_45 (by decide) ?_
              refine q_sub (lv' := [(2, .int (nI (lo + 1))), (0, .ref (σ.2.1 0)), (1, .int (nI pa))]) [0, 2, 3] rfl ?_
              exact ihL_1 (lo + 1) (by omega) (lt_s hno (fun ⟨k9, hk9, z⟩ => hk0 k9 (by omega) z)) (by omega)
            · skip
              refine q_aload_n C dX2_originOf_15 rfl 1 rfl ?_
              refine q_get C (k := 0) (fi := 4) (.ref (σ.2.1 4)) (by omega) q_enBP rfl iX2_originOf_X2 (by decide) (by decide +kernel) rfl rfl dX2_originOf_16 ?_
              refine q_iload_n C dX2_originOf_19 rfl 2 rfl ?_
              refine q_aaldP C (by omega) dX2_originOf_20 ?_
              refine q_stk (st' := [.ref (σ.2.1 (27 + (1 + pa)))]) (by rw [show 27 + (1 + pa) = 28 + pa by omega]) ?_
              refine q_iload_n C dX2_originOf_21 rfl 0 rfl ?_
              refine q_aload_n C dX2_originOf_22 rfl 1 rfl ?_
              refine q_get C (k := 0) (fi := 4) (.ref (σ.2.1 4)) (by omega) q_enBP rfl iX2_originOf_X2 (by decide) (by decide +kernel) rfl rfl dX2_originOf_23 ?_
              refine q_iload_n C dX2_originOf_26 rfl 3 rfl ?_
              refine q_aaldP C (by omega) dX2_originOf_27 ?_
              refine q_stk (st' := [.ref (σ.2.1 (27 + (1 + lo))), .int (nI k), .ref (σ.2.1 (27 + (1 + pa)))]) (by rw [show 27 + (1 + lo) = 28 + lo by omega]) ?_
              refine q_callNi C (As := [.int (nI k), .ref (σ.2.1 (27 + (1 + lo)))]) (rest := []) (k := 27 + (1 + pa)) (q_isG (by omega)).1 (q_enG (by omega)) rfl rfl (kX1_hasImage l σ V G (i := 1 + pa) (by omega) (hp pa hpa) (j := 1 + lo) (by omega) (hp lo (by omega)) (k := k) (by omega)) 2 (host := RX2) gX2_originOf_X1_hasImage_n133 rfl rfl rfl (by decide +kernel) (by decide +kernel) (by decide +kernel) (by decide +kernel) (by decide +kernel) ⟨Nat.le_of_ble_eq_true rfl, Nat.le_of_ble_eq_true rfl⟩ dX2_originOf_28 rfl (Nat.le_of_ble_eq_true rfl) ⟨Nat.le_of_ble_eq_true rfl, Nat.le_of_ble_eq_true rfl⟩ (fun r_28 V_3 G_4 hq_28 => ?_)
              obtain ⟨hs_28, rfl, rfl⟩ := hq_28
              refine q_if_eq C 36 dX2_originOf_31 (by decide) (fun c_31 => ?_) (fun c_31 => ?_)
              · skip
                have b_28 := (q_is_eq hs_28).mp c_31
                refine q_iincN C [(3, .int (nI (k + 1))), (0, .ref (σ.2.1 0)), (1, .int (nI pa)), (2, .int (nI lo))] dX2_originOf_36 0 rfl (by decide) rfl ?_
                refine q_goto C 9 dX2_originOf_39 (by decide) ?_
                refine q_sub (lv' := [(3, .int (nI (k + 1))), (0, .ref (σ.2.1 0)), (1, .int (nI pa)), (2, .int (nI lo))]) [0, 1, 2, 3] rfl ?_
                exact ihL_2 (k + 1) (by omega) (lt_s hk0 b_28) (by omega)
              · skip
                have b_28 := (q_is_ne hs_28).mp c_31
                refine q_iload_n C dX2_originOf_34 rfl 3 rfl ?_
                refine hR _ _ _ _ _ _ _ ?_ rfl (Nat.le_of_ble_eq_true rfl) (Nat.le_of_ble_eq_true rfl) dX2_originOf_35
                exact ⟨⟨lo, ⟨by omega, fun _ => ⟨k, by omega, b_28⟩, hno⟩, rfl⟩, rfl, rfl⟩
        refine q_sub (lv' := [(3, .int (nI 0)), (0, .ref (σ.2.1 0)), (1, .int (nI pa)), (2, .int (nI lo))]) [0, 2, 3, 1] rfl ?_
        exact L_2 _ 0 (Nat.zero_le _) lt_0 (Nat.lt_succ_self _)
  refine q_sub (lv' := [(2, .int (nI 0)), (0, .ref (σ.2.1 0)), (1, .int (nI pa))]) [0, 1, 2] rfl ?_
  exact L_1 _ 0 (Nat.zero_le _) lt_0 (Nat.lt_succ_self _)
abbrev rX2_storyOf : Room := { frames := 4, cells := 0, slots := 0, locals := 83 }
theorem iX2_storyOf_X2 : ∀ w ∈ u_ws RX2 TX2 15, w ∈ wsX2_storyOf := by decide +kernel
set_option maxHeartbeats 4000000 in
set_option maxRecDepth 100000 in
/-- storyOf -/
theorem kX2_storyOf (l : Launch) (σ : q_E) (V : q_V) (G : q_G) {n : Nat} (hn2 : n ≤ 12) (hp : q_cpats V n) {ns : Nat} (hs : V 0 13 = nI ns) (hs2 : ns ≤ 8) (hsg : q_csgs V ns) {pa : Nat} (hpa : pa < n) : q_Mi l yX2_storyOf wsX2_storyOf rX2_storyOf σ [.ref (σ.2.1 0), .int (nI pa)] V G (fun r V' G' => q_cstory V pa ns = r ∧ V = V' ∧ G = G') 0 0 := by
  refine q_Mi_of (cc := cX2_storyOf) (maxL := 4) (lv := [(0, .ref (σ.2.1 0)), (1, .int (nI pa))]) (by decide +kernel) rfl (Nat.le_of_ble_eq_true rfl) rfl ?_
  intro p e s m args below meth c Q C hR
  refine q_iconst C (nI 0) dX2_storyOf_0 (by decide) ?_
  refine q_istore_n C [(2, .int (nI 0)), (0, .ref (σ.2.1 0)), (1, .int (nI pa))] dX2_storyOf_1 rfl (by decide) rfl ?_
  refine q_iconst C (nI 0) dX2_storyOf_2 (by decide) ?_
  refine q_istore_n C [(3, .int (nI 0)), (2, .int (nI 0)), (0, .ref (σ.2.1 0)), (1, .int (nI pa))] dX2_storyOf_3 rfl (by decide) rfl ?_
  have L_1 : ∀ (nL_1 : Nat) (j : Nat) (hj : j ≤ ns), ns - j < nL_1 → q_W σ p l e rX2_storyOf s m args below meth c Q 4 0 0 V G [(2, .int (q_cstory V pa j)), (3, .int (nI j)), (0, .ref (σ.2.1 0)), (1, .int (nI pa))] 4 [] := by
    intro nL_1
    induction nL_1 with
    | zero => intro j hj h; exact absurd h (Nat.not_lt_zero _)
    | succ nL_1 ihL_1 =>
      intro j hj hmL_1
      refine q_iload_n C dX2_storyOf_4 rfl 1 rfl ?_
      refine q_aload_n C dX2_storyOf_5 rfl 2 rfl ?_
      refine q_get C (k := 0) (fi := 13) (.int (nI ns)) (by omega) q_enBP rfl iX2_storyOf_X2 (by decide) (by decide +kernel) rfl (congrArg (fun z => some (Value.int z)) (hs)) dX2_storyOf_6 ?_
      refine q_icmp_geN C 43 dX2_storyOf_9 (by decide) (by omega) (by omega) (fun c_9 => ?_) (fun c_9 => ?_)
      · skip
        refine q_iload_n C dX2_storyOf_43 rfl 0 rfl ?_
        refine hR _ _ _ _ _ _ _ ?_ rfl (Nat.le_of_ble_eq_true rfl) (Nat.le_of_ble_eq_true rfl) dX2_storyOf_44
        obtain rfl : j = ns := by omega
        exact ⟨rfl, rfl, rfl⟩
      · skip
        refine q_iload_n C dX2_storyOf_12 rfl 0 rfl ?_
        refine q_aload_n C dX2_storyOf_13 rfl 2 rfl ?_
        refine q_get C (k := 0) (fi := 12) (.ref (σ.2.1 11)) (by omega) q_enBP rfl iX2_storyOf_X2 (by decide) (by decide +kernel) rfl rfl dX2_storyOf_14 ?_
        refine q_iload_n C dX2_storyOf_17 rfl 1 rfl ?_
        refine q_ialdN C (k := 11) (n := 8) ⟨by decide, by decide, by decide⟩ (by omega) (by decide) dX2_storyOf_18 ?_
        refine q_aload_n C dX2_storyOf_19 rfl 2 rfl ?_
        refine q_get C (k := 0) (fi := 4) (.ref (σ.2.1 4)) (by omega) q_enBP rfl iX2_storyOf_X2 (by decide) (by decide +kernel) rfl rfl dX2_storyOf_20 ?_
        refine q_iload_n C dX2_storyOf_23 rfl 3 rfl ?_
        refine q_aaldP C (by omega) dX2_storyOf_24 ?_
        refine q_stk (st' := [.ref (σ.2.1 (27 + (1 + pa))), .int (V 11 j), .int (q_cstory V pa j)]) (by rw [show 27 + (1 + pa) = 28 + pa by omega]) ?_
        refine q_aload_n C dX2_storyOf_25 rfl 2 rfl ?_
        refine q_get C (k := 0) (fi := 11) (.ref (σ.2.1 10)) (by omega) q_enBP rfl iX2_storyOf_X2 (by decide) (by decide +kernel) rfl rfl dX2_storyOf_26 ?_
        refine q_iload_n C dX2_storyOf_29 rfl 1 rfl ?_
        refine q_aaldS C (by omega) dX2_storyOf_30 ?_
        refine q_stk (st' := [.ref (σ.2.1 (27 + (13 + j))), .ref (σ.2.1 (27 + (1 + pa))), .int (V 11 j), .int (q_cstory V pa j)]) (by rw [show 27 + (13 + j) = 40 + j by omega]) ?_
        refine q_callNi C (As := [.ref (σ.2.1 (27 + (13 + j)))]) (rest := [.int (V 11 j), .int (q_cstory V pa j)]) (k := 27 + (1 + pa)) (q_isG (by omega)).1 (q_enG (by omega)) rfl rfl (kX1_placesOf l σ V G (i := 1 + pa) (by omega) (hp pa hpa) (j := 13 + j) (by omega) (hsg j (by omega))) 1 (host := RX2) gX2_storyOf_X1_placesOf_n195 rfl rfl rfl (by decide +kernel) (by decide +kernel) (by decide +kernel) (by decide +kernel) (by decide +kernel) ⟨Nat.le_of_ble_eq_true rfl, Nat.le_of_ble_eq_true rfl⟩ dX2_storyOf_31 rfl (Nat.le_of_ble_eq_true rfl) ⟨Nat.le_of_ble_eq_true rfl, Nat.le_of_ble_eq_true rfl⟩ (fun r_31 V_2 G_3 hq_31 => ?_)
        obtain ⟨rfl, rfl, rfl⟩ := hq_31
        refine q_imul C dX2_storyOf_34 ?_
        refine q_iadd C dX2_storyOf_35 ?_
        refine q_istore_n C [(2, .int ((q_cstory V pa j) + ((V 11 j) * ((nI (q_places V (1 + pa) (q_gw V (1 + pa)) (q_gh V (1 + pa)) (13 + j) (q_gw V (13 + j)) (q_gh V (13 + j)))))))), (3, .int (nI j)), (0, .ref (σ.2.1 0)), (1, .int (nI pa))] dX2_storyOf_36 rfl (by decide) rfl ?_
        refine q_iincN C [(3, .int (nI (j + 1))), (2, .int ((q_cstory V pa j) + ((V 11 j) * ((nI (q_places V (1 + pa) (q_gw V (1 + pa)) (q_gh V (1 + pa)) (13 + j) (q_gw V (13 + j)) (q_gh V (13 + j)))))))), (0, .ref (σ.2.1 0)), (1, .int (nI pa))] dX2_storyOf_37 1 rfl (by decide) rfl ?_
        refine q_goto C 4 dX2_storyOf_40 (by decide) ?_
        refine q_sub (lv' := [(2, .int ((q_cstory V pa j) + ((V 11 j) * ((nI (q_places V (1 + pa) (q_gw V (1 + pa)) (q_gh V (1 + pa)) (13 + j) (q_gw V (13 + j)) (q_gh V (13 + j)))))))), (3, .int (nI (j + 1))), (0, .ref (σ.2.1 0)), (1, .int (nI pa))]) [1, 0, 2, 3] rfl ?_
        exact ihL_1 (j + 1) (by omega) (by omega)
  refine q_sub (lv' := [(2, .int (nI 0)), (3, .int (nI 0)), (0, .ref (σ.2.1 0)), (1, .int (nI pa))]) [1, 0, 2, 3] rfl ?_
  exact L_1 _ 0 (Nat.zero_le _) (Nat.lt_succ_self _)
abbrev rX2_rankOf : Room := { frames := 1, cells := 0, slots := 0, locals := 12 }
theorem iX2_rankOf_X2 : ∀ w ∈ u_ws RX2 TX2 15, w ∈ wsX2_rankOf := by decide +kernel
set_option maxHeartbeats 4000000 in
set_option maxRecDepth 100000 in
/-- rankOf -/
theorem kX2_rankOf (l : Launch) (σ : q_E) (V : q_V) (G : q_G) {a : Nat} (ha : a < 7) : q_Mi l yX2_rankOf wsX2_rankOf rX2_rankOf σ [.ref (σ.2.1 0), .int (nI a)] V G (fun r V' G' => nI (q_rk (G 12) a) = r ∧ V = V' ∧ G = G') 0 0 := by
  refine q_Mi_of (cc := cX2_rankOf) (maxL := 4) (lv := [(0, .ref (σ.2.1 0)), (1, .int (nI a))]) (by decide +kernel) rfl (Nat.le_of_ble_eq_true rfl) rfl ?_
  intro p e s m args below meth c Q C hR
  refine q_iconst C (nI 0) dX2_rankOf_0 (by decide) ?_
  refine q_istore_n C [(2, .int (nI 0)), (0, .ref (σ.2.1 0)), (1, .int (nI a))] dX2_rankOf_1 rfl (by decide) rfl ?_
  refine q_iconst C (nI 0) dX2_rankOf_2 (by decide) ?_
  refine q_istore_n C [(3, .int (nI 0)), (2, .int (nI 0)), (0, .ref (σ.2.1 0)), (1, .int (nI a))] dX2_rankOf_3 rfl (by decide) rfl ?_
  have L_1 : ∀ (nL_1 : Nat) (j n9 : Nat) (hj : j ≤ 7) (hn9 : n9 = q_ct (fun i => G 12 a < G 12 i ∨ (G 12 i = G 12 a ∧ i < a)) j), 7 - j < nL_1 → q_W σ p l e rX2_rankOf s m args below meth c Q 4 0 0 V G [(2, .int (nI n9)), (3, .int (nI j)), (0, .ref (σ.2.1 0)), (1, .int (nI a))] 4 [] := by
    intro nL_1
    induction nL_1 with
    | zero => intro j n9 hj hn9 h; exact absurd h (Nat.not_lt_zero _)
    | succ nL_1 ihL_1 =>
      intro j n9 hj hn9 hmL_1
      refine q_iload_n C dX2_rankOf_4 rfl 1 rfl ?_
      refine q_bipush C (nI 7) dX2_rankOf_5 (by decide) ?_
      refine q_icmp_geN C 56 dX2_rankOf_7 (by decide) (by omega) (by omega) (fun c_7 => ?_) (fun c_7 => ?_)
      · skip
        refine q_iload_n C dX2_rankOf_56 rfl 0 rfl ?_
        refine hR _ _ _ _ _ _ _ ?_ rfl (Nat.le_of_ble_eq_true rfl) (Nat.le_of_ble_eq_true rfl) dX2_rankOf_57
        obtain rfl : j = 7 := by omega
        exact ⟨by rw [hn9]; rfl, rfl, rfl⟩
      · skip
        refine q_aload_n C dX2_rankOf_10 rfl 2 rfl ?_
        refine q_get C (k := 0) (fi := 14) (.ref (σ.2.1 12)) (by omega) q_enBP rfl iX2_rankOf_X2 (by decide) (by decide +kernel) rfl rfl dX2_rankOf_11 ?_
        refine q_iload_n C dX2_rankOf_14 rfl 1 rfl ?_
        refine q_laldN C (k := 12) (n := 7) ⟨by decide, by decide, by decide⟩ (by omega) (by decide) dX2_rankOf_15 ?_
        refine q_aload_n C dX2_rankOf_16 rfl 2 rfl ?_
        refine q_get C (k := 0) (fi := 14) (.ref (σ.2.1 12)) (by omega) q_enBP rfl iX2_rankOf_X2 (by decide) (by decide +kernel) rfl rfl dX2_rankOf_17 ?_
        refine q_iload_n C dX2_rankOf_20 rfl 3 rfl ?_
        refine q_laldN C (k := 12) (n := 7) ⟨by decide, by decide, by decide⟩ (by omega) (by decide) dX2_rankOf_21 ?_
        refine q_lcmp C dX2_rankOf_22 ?_
        refine q_if_gt C 47 dX2_rankOf_23 (by decide) (fun c_23 => ?_) (fun c_23 => ?_)
        · skip
          refine q_iincN C [(2, .int (nI (n9 + 1))), (3, .int (nI j)), (0, .ref (σ.2.1 0)), (1, .int (nI a))] dX2_rankOf_47 0 rfl (by decide) rfl ?_
          refine q_iincN C [(3, .int (nI (j + 1))), (2, .int (nI (n9 + 1))), (0, .ref (σ.2.1 0)), (1, .int (nI a))] dX2_rankOf_50 1 rfl (by decide) rfl ?_
          refine q_goto C 4 dX2_rankOf_53 (by decide) ?_
          refine q_sub (lv' := [(2, .int (nI (n9 + 1))), (3, .int (nI (j + 1))), (0, .ref (σ.2.1 0)), (1, .int (nI a))]) [1, 0, 2, 3] rfl ?_
          exact ihL_1 (j + 1) _ (by omega) (by first | (rw [hn9]; exact (q_ct_y (p := (fun i => G 12 a < G 12 i ∨ (G 12 i = G 12 a ∧ i < a))) (Or.inl ((lg_cmp_gt _ _).mp c_23))).symm) | (rw [hn9]; exact (q_ct_y (p := (fun i => G 12 a < G 12 i ∨ (G 12 i = G 12 a ∧ i < a))) (Or.inr ⟨(lg_cmp_eq _ _).mp c_39, c_44⟩)).symm) | exact hn9.trans (q_ct_n (p := (fun i => G 12 a < G 12 i ∨ (G 12 i = G 12 a ∧ i < a))) (fun z => z.elim (fun q => c_23 ((lg_cmp_gt _ _).mpr q)) (fun q => c_39 ((lg_cmp_eq _ _).mpr q.1)))).symm | exact hn9.trans (q_ct_n (p := (fun i => G 12 a < G 12 i ∨ (G 12 i = G 12 a ∧ i < a))) (fun z => z.elim (fun q => c_23 ((lg_cmp_gt _ _).mpr q)) (fun q => Nat.not_lt.mpr c_44 q.2))).symm) (by omega)
        · skip
          refine q_aload_n C dX2_rankOf_26 rfl 2 rfl ?_
          refine q_get C (k := 0) (fi := 14) (.ref (σ.2.1 12)) (by omega) q_enBP rfl iX2_rankOf_X2 (by decide) (by decide +kernel) rfl rfl dX2_rankOf_27 ?_
          refine q_iload_n C dX2_rankOf_30 rfl 1 rfl ?_
          refine q_laldN C (k := 12) (n := 7) ⟨by decide, by decide, by decide⟩ (by omega) (by decide) dX2_rankOf_31 ?_
          refine q_aload_n C dX2_rankOf_32 rfl 2 rfl ?_
          refine q_get C (k := 0) (fi := 14) (.ref (σ.2.1 12)) (by omega) q_enBP rfl iX2_rankOf_X2 (by decide) (by decide +kernel) rfl rfl dX2_rankOf_33 ?_
          refine q_iload_n C dX2_rankOf_36 rfl 3 rfl ?_
          refine q_laldN C (k := 12) (n := 7) ⟨by decide, by decide, by decide⟩ (by omega) (by decide) dX2_rankOf_37 ?_
          refine q_lcmp C dX2_rankOf_38 ?_
          refine q_if_ne C 50 dX2_rankOf_39 (by decide) (fun c_39 => ?_) (fun c_39 => ?_)
          · skip
            refine q_iincN C [(3, .int (nI (j + 1))), (2, .int (nI n9)), (0, .ref (σ.2.1 0)), (1, .int (nI a))] dX2_rankOf_50 1 rfl (by decide) rfl ?_
            refine q_goto C 4 dX2_rankOf_53 (by decide) ?_
            refine q_sub (lv' := [(2, .int (nI n9)), (3, .int (nI (j + 1))), (0, .ref (σ.2.1 0)), (1, .int (nI a))]) [1, 0, 2, 3] rfl ?_
            exact ihL_1 (j + 1) _ (by omega) (by first | (rw [hn9]; exact (q_ct_y (p := (fun i => G 12 a < G 12 i ∨ (G 12 i = G 12 a ∧ i < a))) (Or.inl ((lg_cmp_gt _ _).mp c_23))).symm) | (rw [hn9]; exact (q_ct_y (p := (fun i => G 12 a < G 12 i ∨ (G 12 i = G 12 a ∧ i < a))) (Or.inr ⟨(lg_cmp_eq _ _).mp c_39, c_44⟩)).symm) | exact hn9.trans (q_ct_n (p := (fun i => G 12 a < G 12 i ∨ (G 12 i = G 12 a ∧ i < a))) (fun z => z.elim (fun q => c_23 ((lg_cmp_gt _ _).mpr q)) (fun q => c_39 ((lg_cmp_eq _ _).mpr q.1)))).symm | exact hn9.trans (q_ct_n (p := (fun i => G 12 a < G 12 i ∨ (G 12 i = G 12 a ∧ i < a))) (fun z => z.elim (fun q => c_23 ((lg_cmp_gt _ _).mpr q)) (fun q => Nat.not_lt.mpr c_44 q.2))).symm) (by omega)
          · skip
            refine q_iload_n C dX2_rankOf_42 rfl 1 rfl ?_
            refine q_iload_n C dX2_rankOf_43 rfl 3 rfl ?_
            refine q_icmp_geN C 50 dX2_rankOf_44 (by decide) (by omega) (by omega) (fun c_44 => ?_) (fun c_44 => ?_)
            · skip
              refine q_iincN C [(3, .int (nI (j + 1))), (2, .int (nI n9)), (0, .ref (σ.2.1 0)), (1, .int (nI a))] dX2_rankOf_50 1 rfl (by decide) rfl ?_
              refine q_goto C 4 dX2_rankOf_53 (by decide) ?_
              refine q_sub (lv' := [(2, .int (nI n9)), (3, .int (nI (j + 1))), (0, .ref (σ.2.1 0)), (1, .int (nI a))]) [1, 0, 2, 3] rfl ?_
              exact ihL_1 (j + 1) _ (by omega) (by first | (rw [hn9]; exact (q_ct_y (p := (fun i => G 12 a < G 12 i ∨ (G 12 i = G 12 a ∧ i < a))) (Or.inl ((lg_cmp_gt _ _).mp c_23))).symm) | (rw [hn9]; exact (q_ct_y (p := (fun i => G 12 a < G 12 i ∨ (G 12 i = G 12 a ∧ i < a))) (Or.inr ⟨(lg_cmp_eq _ _).mp c_39, c_44⟩)).symm) | exact hn9.trans (q_ct_n (p := (fun i => G 12 a < G 12 i ∨ (G 12 i = G 12 a ∧ i < a))) (fun z => z.elim (fun q => c_23 ((lg_cmp_gt _ _).mpr q)) (fun q => c_39 ((lg_cmp_eq _ _).mpr q.1)))).symm | exact hn9.trans (q_ct_n (p := (fun i => G 12 a < G 12 i ∨ (G 12 i = G 12 a ∧ i < a))) (fun z => z.elim (fun q => c_23 ((lg_cmp_gt _ _).mpr q)) (fun q => Nat.not_lt.mpr c_44 q.2))).symm) (by omega)
            · skip
              refine q_iincN C [(2, .int (nI (n9 + 1))), (3, .int (nI j)), (0, .ref (σ.2.1 0)), (1, .int (nI a))] dX2_rankOf_47 0 rfl (by decide) rfl ?_
              refine q_iincN C [(3, .int (nI (j + 1))), (2, .int (nI (n9 + 1))), (0, .ref (σ.2.1 0)), (1, .int (nI a))] dX2_rankOf_50 1 rfl (by decide) rfl ?_
              refine q_goto C 4 dX2_rankOf_53 (by decide) ?_
              refine q_sub (lv' := [(2, .int (nI (n9 + 1))), (3, .int (nI (j + 1))), (0, .ref (σ.2.1 0)), (1, .int (nI a))]) [1, 0, 2, 3] rfl ?_
              exact ihL_1 (j + 1) _ (by omega) (by first | (rw [hn9]; exact (q_ct_y (p := (fun i => G 12 a < G 12 i ∨ (G 12 i = G 12 a ∧ i < a))) (Or.inl ((lg_cmp_gt _ _).mp c_23))).symm) | (rw [hn9]; exact (q_ct_y (p := (fun i => G 12 a < G 12 i ∨ (G 12 i = G 12 a ∧ i < a))) (Or.inr ⟨(lg_cmp_eq _ _).mp c_39, c_44⟩)).symm) | exact hn9.trans (q_ct_n (p := (fun i => G 12 a < G 12 i ∨ (G 12 i = G 12 a ∧ i < a))) (fun z => z.elim (fun q => c_23 ((lg_cmp_gt _ _).mpr q)) (fun q => c_39 ((lg_cmp_eq _ _).mpr q.1)))).symm | exact hn9.trans (q_ct_n (p := (fun i => G 12 a < G 12 i ∨ (G 12 i = G 12 a ∧ i < a))) (fun z => z.elim (fun q => c_23 ((lg_cmp_gt _ _).mpr q)) (fun q => Nat.not_lt.mpr c_44 q.2))).symm) (by omega)
  refine q_sub (lv' := [(2, .int (nI 0)), (3, .int (nI 0)), (0, .ref (σ.2.1 0)), (1, .int (nI a))]) [1, 0, 2, 3] rfl ?_
  exact L_1 _ 0 0 (Nat.zero_le _) rfl (Nat.lt_succ_self _)
