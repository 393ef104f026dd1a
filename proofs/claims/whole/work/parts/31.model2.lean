abbrev rX3_standsAt : Room := { frames := 2, cells := 0, slots := 0, locals := 35 }
theorem iX3_standsAt_X3 : ∀ w ∈ u_ws RX3 TX3 26, w ∈ wsX3_standsAt := by decide +kernel
set_option maxHeartbeats 4000000 in
set_option maxRecDepth 100000 in
/-- standsAt -/
theorem kX3_standsAt (l : Launch) (σ : q_E) (V : q_V) (G : q_G) {t pa w h sw sh : Nat} (ht : t < 8) (hs : q_sok V t sw sh) (hp : pa < 12) (hm : q_mok V pa w h) {cn rn : Nat} (hc : cn < 8) (hr : rn < 6) : q_Mi l yX3_standsAt wsX3_standsAt rX3_standsAt σ [.ref (σ.2.1 19), .int (nI t), .int (nI pa), .int (nI cn), .int (nI rn)] V G (fun r V' G' => q_is (q_mstands V t pa w h sw sh cn rn) r ∧ V = V' ∧ G = G') 0 0 := by
  refine q_Mi_of (cc := cX3_standsAt) (maxL := 8) (lv := [(0, .ref (σ.2.1 19)), (1, .int (nI t)), (2, .int (nI pa)), (3, .int (nI cn)), (4, .int (nI rn))]) (by decide +kernel) rfl (Nat.le_of_ble_eq_true rfl) rfl ?_
  intro p e s m args below meth c Q C hR
  obtain ⟨hmw, hmh, hw1, hw8, hh1, hh6⟩ := id hm
  have hwh : w * h ≤ 48 := Nat.mul_le_mul hw8 hh6
  obtain ⟨hsw, hsh, hs1, hs3, ht1, ht3⟩ := id hs
  have hss : sw * sh ≤ 9 := Nat.mul_le_mul hs3 ht3
  refine q_aload_n C dX3_standsAt_0 rfl 0 rfl ?_
  refine q_get C (k := 19) (fi := 21) (.ref (σ.2.1 85)) (by omega) q_enMO rfl iX3_standsAt_X3 (by decide) (by decide +kernel) rfl rfl dX3_standsAt_1 ?_
  refine q_iload_n C dX3_standsAt_4 rfl 1 rfl ?_
  refine q_ialdN C (k := 85) (n := 8) ⟨by decide, by decide, by decide⟩ (by omega) (by decide) dX3_standsAt_5 ?_
  refine q_stk (st' := [.int (nI sw)]) (congrArg (fun z => Value.int z :: []) (hsw)) ?_
  refine q_istore C [(5, .int (nI sw)), (0, .ref (σ.2.1 19)), (1, .int (nI t)), (2, .int (nI pa)), (3, .int (nI cn)), (4, .int (nI rn))] dX3_standsAt_6 (by decide) rfl ?_
  have J_1 : ∀ (z : Int32) (hz : (z = 1 ∧ cn + sw ≤ w ∧ rn + sh ≤ h) ∨ (z = 0 ∧ ¬ q_mstands V t pa w h sw sh cn rn)), q_W σ p l e rX3_standsAt s m args below meth c Q 8 0 0 V G [(6, .int z), (0, .ref (σ.2.1 19)), (1, .int (nI t)), (2, .int (nI pa)), (3, .int (nI cn)), (4, .int (nI rn)), (5, .int (nI sw))] 46 [] := by
    intro z hz
    refine q_iconst C (nI 0) dX3_standsAt_46 (by decide) ?_
    refine q_istore C [(7, .int (nI 0)), (6, .int z), (0, .ref (σ.2.1 19)), (1, .int (nI t)), (2, .int (nI pa)), (3, .int (nI cn)), (4, .int (nI rn)), (5, .int (nI sw))] dX3_standsAt_47 (by decide) rfl ?_
    have L_2 : ∀ (nL_2 : Nat) (j : Nat) (z : Int32) (hj : j ≤ sw * sh) (hz : (z = 1 ∧ cn + sw ≤ w ∧ rn + sh ≤ h ∧ ∀ k, k < j → q_mseq V t pa sw cn rn k) ∨ (z = 0 ∧ ¬ q_mstands V t pa w h sw sh cn rn)), sw * sh - j < nL_2 → q_W σ p l e rX3_standsAt s m args below meth c Q 8 0 0 V G [(6, .int z), (7, .int (nI j)), (0, .ref (σ.2.1 19)), (1, .int (nI t)), (2, .int (nI pa)), (3, .int (nI cn)), (4, .int (nI rn)), (5, .int (nI sw))] 49 [] := by
      intro nL_2
      induction nL_2 with
      | zero => intro j z hj hz h; exact absurd h (Nat.not_lt_zero _)
      | succ nL_2 ihL_2 =>
        intro j z hj hz hmL_2
        refine q_iload C dX3_standsAt_49 1 rfl ?_
        refine q_iload C dX3_standsAt_51 7 rfl ?_
        refine q_aload_n C dX3_standsAt_53 rfl 2 rfl ?_
        refine q_get C (k := 19) (fi := 22) (.ref (σ.2.1 86)) (by omega) q_enMO rfl iX3_standsAt_X3 (by decide) (by decide +kernel) rfl rfl dX3_standsAt_54 ?_
        refine q_iload_n C dX3_standsAt_57 rfl 3 rfl ?_
        refine q_ialdN C (k := 86) (n := 8) ⟨by decide, by decide, by decide⟩ (by omega) (by decide) dX3_standsAt_58 ?_
        refine q_stk (st' := [.int (nI sh), .int (nI sw), .int (nI j)]) (congrArg (fun z => Value.int z :: [.int (nI sw), .int (nI j)]) (hsh)) ?_
        refine q_imulN C dX3_standsAt_59  ?_
        refine q_icmp_geN C 116 dX3_standsAt_60 (by decide) (by omega) (by omega) (fun c_60 => ?_) (fun c_60 => ?_)
        · skip
          refine q_iload C dX3_standsAt_116 0 rfl ?_
          refine hR _ _ _ _ _ _ _ ?_ (by rcases hz with ⟨rfl, -⟩ | ⟨rfl, -⟩ <;> rfl) (Nat.le_of_ble_eq_true rfl) (Nat.le_of_ble_eq_true rfl) dX3_standsAt_118
          refine ⟨?_, rfl, rfl⟩
          rcases hz with ⟨h0, h1, h2, h3⟩ | ⟨h0, h1⟩
          · rw [h0]; first | exact q_is_y ⟨h1, h2, fun t ht => h3 t (by omega)⟩ | exact absurd c_65 (by rw [h0]; decide)
          · rw [h0]; exact q_is_n h1
        · skip
          have hd1 := q_div_lt c_60 (by omega : 0 < sw)
          have hd2 := q_mod_lt (k := j) (by omega : 0 < sw)
          refine q_iload C dX3_standsAt_63 0 rfl ?_
          refine q_if_eq C 116 dX3_standsAt_65 (by decide) (fun c_65 => ?_) (fun c_65 => ?_)
          · skip
            refine q_iload C dX3_standsAt_116 0 rfl ?_
            refine hR _ _ _ _ _ _ _ ?_ (by rcases hz with ⟨rfl, -⟩ | ⟨rfl, -⟩ <;> rfl) (Nat.le_of_ble_eq_true rfl) (Nat.le_of_ble_eq_true rfl) dX3_standsAt_118
            refine ⟨?_, rfl, rfl⟩
            rcases hz with ⟨h0, h1, h2, h3⟩ | ⟨h0, h1⟩
            · rw [h0]; first | exact q_is_y ⟨h1, h2, fun t ht => h3 t (by omega)⟩ | exact absurd c_65 (by rw [h0]; decide)
            · rw [h0]; exact q_is_n h1
          · skip
            have hz2 := hz.resolve_right (fun q => c_65 q.1)
            have hq8 := hz2.2.1
            have hq9 := hz2.2.2.1
            refine q_aload_n C dX3_standsAt_68 rfl 2 rfl ?_
            refine q_get C (k := 19) (fi := 23) (.ref (σ.2.1 87)) (by omega) q_enMO rfl iX3_standsAt_X3 (by decide) (by decide +kernel) rfl rfl dX3_standsAt_69 ?_
            refine q_bipush C (nI 9) dX3_standsAt_72 (by decide) ?_
            refine q_iload_n C dX3_standsAt_74 rfl 3 rfl ?_
            refine q_imulN C dX3_standsAt_75  ?_
            refine q_iload C dX3_standsAt_76 1 rfl ?_
            refine q_iaddN C dX3_standsAt_78  ?_
            refine q_ialdN C (k := 87) (n := 72) ⟨by decide, by decide, by decide⟩ (by omega) (by decide) dX3_standsAt_79 ?_
            refine q_aload_n C dX3_standsAt_80 rfl 2 rfl ?_
            refine q_iload_n C dX3_standsAt_81 rfl 4 rfl ?_
            refine q_iload_n C dX3_standsAt_82 rfl 5 rfl ?_
            refine q_iload C dX3_standsAt_83 1 rfl ?_
            refine q_iload C dX3_standsAt_85 7 rfl ?_
            refine q_iremN C dX3_standsAt_87 (by omega) (by omega) (by omega) ?_
            refine q_iaddN C dX3_standsAt_88  ?_
            refine q_iload C dX3_standsAt_89 6 rfl ?_
            refine q_iload C dX3_standsAt_91 1 rfl ?_
            refine q_iload C dX3_standsAt_93 7 rfl ?_
            refine q_idivN C dX3_standsAt_95 (by omega) (by omega) (by omega) ?_
            refine q_iaddN C dX3_standsAt_96  ?_
            refine q_callVi C (As := [.int (nI pa), .int (nI (cn + (j % sw))), .int (nI (rn + (j / sw)))]) (rest := [.int (V 87 ((9 * t) + j))]) (k := 19) (by omega) q_enMO rfl rfl (kX3_at l σ V G (pa := pa) (cn := cn + (j % sw)) (rn := rn + (j / sw)) (by omega) (by omega) (by omega)) 3 gX3_standsAt_X3_at rfl rfl rfl (by decide +kernel) ⟨Nat.le_of_ble_eq_true rfl, Nat.le_of_ble_eq_true rfl⟩ dX3_standsAt_97 rfl (Nat.le_of_ble_eq_true rfl) ⟨Nat.le_of_ble_eq_true rfl, Nat.le_of_ble_eq_true rfl⟩ (fun r_97 V_3 G_4 hq_97 => ?_)
            obtain ⟨rfl, rfl, rfl⟩ := hq_97
            refine q_icmp_ne C 107 dX3_standsAt_100 (by decide) (fun c_100 => ?_) (fun c_100 => ?_)
            · skip
              refine q_iconst C (nI 0) dX3_standsAt_107 (by decide) ?_
              refine q_istore C [(6, .int (nI 0)), (7, .int (nI j)), (0, .ref (σ.2.1 19)), (1, .int (nI t)), (2, .int (nI pa)), (3, .int (nI cn)), (4, .int (nI rn)), (5, .int (nI sw))] dX3_standsAt_108 (by decide) rfl ?_
              refine q_iincN C [(7, .int (nI (j + 1))), (6, .int (nI 0)), (0, .ref (σ.2.1 19)), (1, .int (nI t)), (2, .int (nI pa)), (3, .int (nI cn)), (4, .int (nI rn)), (5, .int (nI sw))] dX3_standsAt_110 1 rfl (by decide) rfl ?_
              refine q_goto C 49 dX3_standsAt_113 (by decide) ?_
              refine q_sub (lv' := [(6, .int (nI 0)), (7, .int (nI (j + 1))), (0, .ref (σ.2.1 19)), (1, .int (nI t)), (2, .int (nI pa)), (3, .int (nI cn)), (4, .int (nI rn)), (5, .int (nI sw))]) [1, 0, 2, 3, 4, 5, 6, 7] rfl ?_
              exact ihL_2 (j + 1) _ (by omega) (Or.inr ⟨rfl, fun q => c_100 (q.2.2 j c_60)⟩) (by omega)
            · skip
              refine q_iconst C (nI 1) dX3_standsAt_103 (by decide) ?_
              refine q_goto C 108 dX3_standsAt_104 (by decide) ?_
              refine q_istore C [(6, .int (nI 1)), (7, .int (nI j)), (0, .ref (σ.2.1 19)), (1, .int (nI t)), (2, .int (nI pa)), (3, .int (nI cn)), (4, .int (nI rn)), (5, .int (nI sw))] dX3_standsAt_108 (by decide) rfl ?_
              refine q_iincN C [(7, .int (nI (j + 1))), (6, .int (nI 1)), (0, .ref (σ.2.1 19)), (1, .int (nI t)), (2, .int (nI pa)), (3, .int (nI cn)), (4, .int (nI rn)), (5, .int (nI sw))] dX3_standsAt_110 1 rfl (by decide) rfl ?_
              refine q_goto C 49 dX3_standsAt_113 (by decide) ?_
              refine q_sub (lv' := [(6, .int (nI 1)), (7, .int (nI (j + 1))), (0, .ref (σ.2.1 19)), (1, .int (nI t)), (2, .int (nI pa)), (3, .int (nI cn)), (4, .int (nI rn)), (5, .int (nI sw))]) [1, 0, 2, 3, 4, 5, 6, 7] rfl ?_
              exact ihL_2 (j + 1) _ (by omega) (Or.inl ⟨rfl, hz2.2.1, hz2.2.2.1, lt_s hz2.2.2.2 c_100⟩) (by omega)
    refine q_sub (lv' := [(6, .int z), (7, .int (nI 0)), (0, .ref (σ.2.1 19)), (1, .int (nI t)), (2, .int (nI pa)), (3, .int (nI cn)), (4, .int (nI rn)), (5, .int (nI sw))]) [1, 0, 2, 3, 4, 5, 6, 7] rfl ?_
    exact L_2 _ 0 z (Nat.zero_le _) (hz.imp (fun q => ⟨q.1, q.2.1, q.2.2, lt_0⟩) id) (Nat.lt_succ_self _)
  refine q_iload_n C dX3_standsAt_8 rfl 4 rfl ?_
  refine q_iload C dX3_standsAt_9 0 rfl ?_
  refine q_iaddN C dX3_standsAt_11  ?_
  refine q_aload_n C dX3_standsAt_12 rfl 1 rfl ?_
  refine q_get C (k := 19) (fi := 8) (.ref (σ.2.1 73)) (by omega) q_enMO rfl iX3_standsAt_X3 (by decide) (by decide +kernel) rfl rfl dX3_standsAt_13 ?_
  refine q_iload_n C dX3_standsAt_16 rfl 3 rfl ?_
  refine q_ialdN C (k := 73) (n := 12) ⟨by decide, by decide, by decide⟩ (by omega) (by decide) dX3_standsAt_17 ?_
  refine q_stk (st' := [.int (nI w), .int (nI (cn + sw))]) (congrArg (fun z => Value.int z :: [.int (nI (cn + sw))]) (hmw)) ?_
  refine q_icmp_gtN C 43 dX3_standsAt_18 (by decide) (by omega) (by omega) (fun c_18 => ?_) (fun c_18 => ?_)
  · skip
    refine q_iconst C (nI 0) dX3_standsAt_43 (by decide) ?_
    refine q_istore C [(6, .int (nI 0)), (5, .int (nI sw)), (0, .ref (σ.2.1 19)), (1, .int (nI t)), (2, .int (nI pa)), (3, .int (nI cn)), (4, .int (nI rn))] dX3_standsAt_44 (by decide) rfl ?_
    refine q_sub (lv' := [(6, .int (nI 0)), (0, .ref (σ.2.1 19)), (1, .int (nI t)), (2, .int (nI pa)), (3, .int (nI cn)), (4, .int (nI rn)), (5, .int (nI sw))]) [0, 2, 3, 4, 5, 6, 1] rfl ?_
    exact J_1 _ (by first | exact Or.inr ⟨rfl, fun q => Nat.not_lt.mpr q.2.1 c_36⟩ | exact Or.inr ⟨rfl, fun q => Nat.not_lt.mpr q.1 c_18⟩)
  · skip
    refine q_iload C dX3_standsAt_21 5 rfl ?_
    refine q_aload_n C dX3_standsAt_23 rfl 1 rfl ?_
    refine q_get C (k := 19) (fi := 22) (.ref (σ.2.1 86)) (by omega) q_enMO rfl iX3_standsAt_X3 (by decide) (by decide +kernel) rfl rfl dX3_standsAt_24 ?_
    refine q_iload_n C dX3_standsAt_27 rfl 2 rfl ?_
    refine q_ialdN C (k := 86) (n := 8) ⟨by decide, by decide, by decide⟩ (by omega) (by decide) dX3_standsAt_28 ?_
    refine q_stk (st' := [.int (nI sh), .int (nI rn)]) (congrArg (fun z => Value.int z :: [.int (nI rn)]) (hsh)) ?_
    refine q_iaddN C dX3_standsAt_29  ?_
    refine q_aload_n C dX3_standsAt_30 rfl 1 rfl ?_
    refine q_get C (k := 19) (fi := 9) (.ref (σ.2.1 74)) (by omega) q_enMO rfl iX3_standsAt_X3 (by decide) (by decide +kernel) rfl rfl dX3_standsAt_31 ?_
    refine q_iload_n C dX3_standsAt_34 rfl 3 rfl ?_
    refine q_ialdN C (k := 74) (n := 12) ⟨by decide, by decide, by decide⟩ (by omega) (by decide) dX3_standsAt_35 ?_
    refine q_stk (st' := [.int (nI h), .int (nI (rn + sh))]) (congrArg (fun z => Value.int z :: [.int (nI (rn + sh))]) (hmh)) ?_
    refine q_icmp_gtN C 43 dX3_standsAt_36 (by decide) (by omega) (by omega) (fun c_36 => ?_) (fun c_36 => ?_)
    · skip
      refine q_iconst C (nI 0) dX3_standsAt_43 (by decide) ?_
      refine q_istore C [(6, .int (nI 0)), (5, .int (nI sw)), (0, .ref (σ.2.1 19)), (1, .int (nI t)), (2, .int (nI pa)), (3, .int (nI cn)), (4, .int (nI rn))] dX3_standsAt_44 (by decide) rfl ?_
      refine q_sub (lv' := [(6, .int (nI 0)), (0, .ref (σ.2.1 19)), (1, .int (nI t)), (2, .int (nI pa)), (3, .int (nI cn)), (4, .int (nI rn)), (5, .int (nI sw))]) [0, 2, 3, 4, 5, 6, 1] rfl ?_
      exact J_1 _ (by first | exact Or.inr ⟨rfl, fun q => Nat.not_lt.mpr q.2.1 c_36⟩ | exact Or.inr ⟨rfl, fun q => Nat.not_lt.mpr q.1 c_18⟩)
    · skip
      refine q_iconst C (nI 1) dX3_standsAt_39 (by decide) ?_
      refine q_goto C 44 dX3_standsAt_40 (by decide) ?_
      refine q_istore C [(6, .int (nI 1)), (5, .int (nI sw)), (0, .ref (σ.2.1 19)), (1, .int (nI t)), (2, .int (nI pa)), (3, .int (nI cn)), (4, .int (nI rn))] dX3_standsAt_44 (by decide) rfl ?_
      refine q_sub (lv' := [(6, .int (nI 1)), (0, .ref (σ.2.1 19)), (1, .int (nI t)), (2, .int (nI pa)), (3, .int (nI cn)), (4, .int (nI rn)), (5, .int (nI sw))]) [0, 2, 3, 4, 5, 6, 1] rfl ?_
      exact J_1 _ (Or.inl ⟨rfl, c_18, c_36⟩)
abbrev rX3_standsIn : Room := { frames := 3, cells := 0, slots := 0, locals := 62 }
set_option maxHeartbeats 4000000 in
set_option maxRecDepth 100000 in
/-- standsIn -/
theorem kX3_standsIn (l : Launch) (σ : q_E) (V : q_V) (G : q_G) {t pa w h sw sh : Nat} (ht : t < 8) (hs : q_sok V t sw sh) (hp : pa < 12) (hm : q_mok V pa w h) : q_Mi l yX3_standsIn wsX3_standsIn rX3_standsIn σ [.ref (σ.2.1 19), .int (nI t), .int (nI pa)] V G (fun r V' G' => nI (q_mplaces V t pa w h sw sh) = r ∧ V = V' ∧ G = G') 0 0 := by
  refine q_Mi_of (cc := cX3_standsIn) (maxL := 5) (lv := [(0, .ref (σ.2.1 19)), (1, .int (nI t)), (2, .int (nI pa))]) (by decide +kernel) rfl (Nat.le_of_ble_eq_true rfl) rfl ?_
  intro p e s m args below meth c Q C hR
  refine q_iconst C (nI 0) dX3_standsIn_0 (by decide) ?_
  refine q_istore_n C [(3, .int (nI 0)), (0, .ref (σ.2.1 19)), (1, .int (nI t)), (2, .int (nI pa))] dX3_standsIn_1 rfl (by decide) rfl ?_
  refine q_iconst C (nI 0) dX3_standsIn_2 (by decide) ?_
  refine q_istore C [(4, .int (nI 0)), (3, .int (nI 0)), (0, .ref (σ.2.1 19)), (1, .int (nI t)), (2, .int (nI pa))] dX3_standsIn_3 (by decide) rfl ?_
  have L_1 : ∀ (nL_1 : Nat) (j n : Nat) (hj : j ≤ 48) (hn : n = q_ct (fun k => q_mstands V t pa w h sw sh (k % 8) (k / 8)) j), 48 - j < nL_1 → q_W σ p l e rX3_standsIn s m args below meth c Q 5 0 0 V G [(3, .int (nI n)), (4, .int (nI j)), (0, .ref (σ.2.1 19)), (1, .int (nI t)), (2, .int (nI pa))] 5 [] := by
    intro nL_1
    induction nL_1 with
    | zero => intro j n hj hn h; exact absurd h (Nat.not_lt_zero _)
    | succ nL_1 ihL_1 =>
      intro j n hj hn hmL_1
      refine q_iload C dX3_standsIn_5 1 rfl ?_
      refine q_bipush C (nI 48) dX3_standsIn_7 (by decide) ?_
      refine q_icmp_geN C 45 dX3_standsIn_9 (by decide) (by omega) (by omega) (fun c_9 => ?_) (fun c_9 => ?_)
      · skip
        refine q_iload_n C dX3_standsIn_45 rfl 0 rfl ?_
        refine hR _ _ _ _ _ _ _ ?_ rfl (Nat.le_of_ble_eq_true rfl) (Nat.le_of_ble_eq_true rfl) dX3_standsIn_46
        obtain rfl : j = 48 := by omega
        exact ⟨by rw [hn]; rfl, rfl, rfl⟩
      · skip
        refine q_iload_n C dX3_standsIn_12 rfl 0 rfl ?_
        refine q_aload_n C dX3_standsIn_13 rfl 2 rfl ?_
        refine q_iload_n C dX3_standsIn_14 rfl 3 rfl ?_
        refine q_iload_n C dX3_standsIn_15 rfl 4 rfl ?_
        refine q_iload C dX3_standsIn_16 1 rfl ?_
        refine q_bipush C (nI 8) dX3_standsIn_18 (by decide) ?_
        refine q_iremN C dX3_standsIn_20 (by omega) (by omega) (by omega) ?_
        refine q_iload C dX3_standsIn_21 1 rfl ?_
        refine q_bipush C (nI 8) dX3_standsIn_23 (by decide) ?_
        refine q_idivN C dX3_standsIn_25 (by omega) (by omega) (by omega) ?_
        refine q_callVi C (As := [.int (nI t), .int (nI pa), .int (nI (j % 8)), .int (nI (j / 8))]) (rest := [.int (nI n)]) (k := 19) (by omega) q_enMO rfl rfl (kX3_standsAt l σ V G ht hs hp hm (cn := j % 8) (rn := j / 8) (by omega) (by omega)) 4 gX3_standsIn_X3_standsAt rfl rfl rfl (by decide +kernel) ⟨Nat.le_of_ble_eq_true rfl, Nat.le_of_ble_eq_true rfl⟩ dX3_standsIn_26 rfl (Nat.le_of_ble_eq_true rfl) ⟨Nat.le_of_ble_eq_true rfl, Nat.le_of_ble_eq_true rfl⟩ (fun r_26 V_2 G_3 hq_26 => ?_)
        obtain ⟨hs_26, rfl, rfl⟩ := hq_26
        refine q_if_eq C 36 dX3_standsIn_29 (by decide) (fun c_29 => ?_) (fun c_29 => ?_)
        · skip
          have b_26 := (q_is_eq hs_26).mp c_29
          refine q_iconst C (nI 0) dX3_standsIn_36 (by decide) ?_
          refine q_iaddN C dX3_standsIn_37  ?_
          refine q_istore_n C [(3, .int (nI (n + 0))), (4, .int (nI j)), (0, .ref (σ.2.1 19)), (1, .int (nI t)), (2, .int (nI pa))] dX3_standsIn_38 rfl (by decide) rfl ?_
          refine q_iincN C [(4, .int (nI (j + 1))), (3, .int (nI (n + 0))), (0, .ref (σ.2.1 19)), (1, .int (nI t)), (2, .int (nI pa))] dX3_standsIn_39 1 rfl (by decide) rfl ?_
          refine q_goto C 5 dX3_standsIn_42 (by decide) ?_
          refine q_sub (lv' := [(3, .int (nI (n + 0))), (4, .int (nI (j + 1))), (0, .ref (σ.2.1 19)), (1, .int (nI t)), (2, .int (nI pa))]) [1, 0, 2, 3, 4] rfl ?_
          exact ihL_1 (j + 1) _ (by omega) (by first | exact hn.trans (q_ct_n (p := fun k => q_mstands V t pa w h sw sh (k % 8) (k / 8)) b_26).symm | (rw [hn]; exact (q_ct_y (p := fun k => q_mstands V t pa w h sw sh (k % 8) (k / 8)) b_26).symm)) (by omega)
        · skip
          have b_26 := (q_is_ne hs_26).mp c_29
          refine q_iconst C (nI 1) dX3_standsIn_32 (by decide) ?_
          refine q_goto C 37 dX3_standsIn_33 (by decide) ?_
          refine q_iaddN C dX3_standsIn_37  ?_
          refine q_istore_n C [(3, .int (nI (n + 1))), (4, .int (nI j)), (0, .ref (σ.2.1 19)), (1, .int (nI t)), (2, .int (nI pa))] dX3_standsIn_38 rfl (by decide) rfl ?_
          refine q_iincN C [(4, .int (nI (j + 1))), (3, .int (nI (n + 1))), (0, .ref (σ.2.1 19)), (1, .int (nI t)), (2, .int (nI pa))] dX3_standsIn_39 1 rfl (by decide) rfl ?_
          refine q_goto C 5 dX3_standsIn_42 (by decide) ?_
          refine q_sub (lv' := [(3, .int (nI (n + 1))), (4, .int (nI (j + 1))), (0, .ref (σ.2.1 19)), (1, .int (nI t)), (2, .int (nI pa))]) [1, 0, 2, 3, 4] rfl ?_
          exact ihL_1 (j + 1) _ (by omega) (by first | exact hn.trans (q_ct_n (p := fun k => q_mstands V t pa w h sw sh (k % 8) (k / 8)) b_26).symm | (rw [hn]; exact (q_ct_y (p := fun k => q_mstands V t pa w h sw sh (k % 8) (k / 8)) b_26).symm)) (by omega)
  refine q_sub (lv' := [(3, .int (nI 0)), (4, .int (nI 0)), (0, .ref (σ.2.1 19)), (1, .int (nI t)), (2, .int (nI pa))]) [1, 0, 2, 3, 4] rfl ?_
  exact L_1 _ 0 0 (Nat.zero_le _) rfl (Nat.lt_succ_self _)
abbrev rX3_storyOf : Room := { frames := 4, cells := 0, slots := 0, locals := 86 }
theorem iX3_storyOf_X3 : ∀ w ∈ u_ws RX3 TX3 26, w ∈ wsX3_storyOf := by decide +kernel
set_option maxHeartbeats 4000000 in
set_option maxRecDepth 100000 in
/-- storyOf -/
theorem kX3_storyOf (l : Launch) (σ : q_E) (V : q_V) (G : q_G) {n pa : Nat} (hn : V 19 20 = nI n) (hn2 : n ≤ 8) (hp : pa < 12) (hm : q_mok V pa (q_n (V 73 pa)) (q_n (V 74 pa))) (hs : ∀ t, t < n → q_sok V t (q_n (V 85 t)) (q_n (V 86 t))) : q_Mi l yX3_storyOf wsX3_storyOf rX3_storyOf σ [.ref (σ.2.1 19), .int (nI pa)] V G (fun r V' G' => q_mstory V pa n = r ∧ V = V' ∧ G = G') 0 0 := by
  refine q_Mi_of (cc := cX3_storyOf) (maxL := 4) (lv := [(0, .ref (σ.2.1 19)), (1, .int (nI pa))]) (by decide +kernel) rfl (Nat.le_of_ble_eq_true rfl) rfl ?_
  intro p e s m args below meth c Q C hR
  refine q_iconst C (nI 0) dX3_storyOf_0 (by decide) ?_
  refine q_istore_n C [(2, .int (nI 0)), (0, .ref (σ.2.1 19)), (1, .int (nI pa))] dX3_storyOf_1 rfl (by decide) rfl ?_
  refine q_iconst C (nI 0) dX3_storyOf_2 (by decide) ?_
  refine q_istore_n C [(3, .int (nI 0)), (2, .int (nI 0)), (0, .ref (σ.2.1 19)), (1, .int (nI pa))] dX3_storyOf_3 rfl (by decide) rfl ?_
  have L_1 : ∀ (nL_1 : Nat) (j : Nat) (hj : j ≤ n), n - j < nL_1 → q_W σ p l e rX3_storyOf s m args below meth c Q 4 0 0 V G [(2, .int (q_mstory V pa j)), (3, .int (nI j)), (0, .ref (σ.2.1 19)), (1, .int (nI pa))] 4 [] := by
    intro nL_1
    induction nL_1 with
    | zero => intro j hj h; exact absurd h (Nat.not_lt_zero _)
    | succ nL_1 ihL_1 =>
      intro j hj hmL_1
      refine q_iload_n C dX3_storyOf_4 rfl 1 rfl ?_
      refine q_aload_n C dX3_storyOf_5 rfl 2 rfl ?_
      refine q_get C (k := 19) (fi := 20) (.int (nI n)) (by omega) q_enMO rfl iX3_storyOf_X3 (by decide) (by decide +kernel) rfl (congrArg (fun z => some (Value.int z)) (hn)) dX3_storyOf_6 ?_
      refine q_icmp_geN C 34 dX3_storyOf_9 (by decide) (by omega) (by omega) (fun c_9 => ?_) (fun c_9 => ?_)
      · skip
        refine q_iload_n C dX3_storyOf_34 rfl 0 rfl ?_
        refine hR _ _ _ _ _ _ _ ?_ rfl (Nat.le_of_ble_eq_true rfl) (Nat.le_of_ble_eq_true rfl) dX3_storyOf_35
        obtain rfl : j = n := by omega
        exact ⟨rfl, rfl, rfl⟩
      · skip
        refine q_iload_n C dX3_storyOf_12 rfl 0 rfl ?_
        refine q_aload_n C dX3_storyOf_13 rfl 2 rfl ?_
        refine q_get C (k := 19) (fi := 24) (.ref (σ.2.1 88)) (by omega) q_enMO rfl iX3_storyOf_X3 (by decide) (by decide +kernel) rfl rfl dX3_storyOf_14 ?_
        refine q_iload_n C dX3_storyOf_17 rfl 1 rfl ?_
        refine q_ialdN C (k := 88) (n := 8) ⟨by decide, by decide, by decide⟩ (by omega) (by decide) dX3_storyOf_18 ?_
        refine q_aload_n C dX3_storyOf_19 rfl 2 rfl ?_
        refine q_iload_n C dX3_storyOf_20 rfl 1 rfl ?_
        refine q_iload_n C dX3_storyOf_21 rfl 3 rfl ?_
        refine q_callVi C (As := [.int (nI j), .int (nI pa)]) (rest := [.int (V 88 j), .int (q_mstory V pa j)]) (k := 19) (by omega) q_enMO rfl rfl (kX3_standsIn l σ V G (t := j) (by omega) (hs j (by omega)) hp hm) 2 gX3_storyOf_X3_standsIn rfl rfl rfl (by decide +kernel) ⟨Nat.le_of_ble_eq_true rfl, Nat.le_of_ble_eq_true rfl⟩ dX3_storyOf_22 rfl (Nat.le_of_ble_eq_true rfl) ⟨Nat.le_of_ble_eq_true rfl, Nat.le_of_ble_eq_true rfl⟩ (fun r_22 V_2 G_3 hq_22 => ?_)
        obtain ⟨rfl, rfl, rfl⟩ := hq_22
        refine q_imul C dX3_storyOf_25 ?_
        refine q_iadd C dX3_storyOf_26 ?_
        refine q_istore_n C [(2, .int ((q_mstory V pa j) + ((V 88 j) * nI (q_mplaces V j pa (q_n (V 73 pa)) (q_n (V 74 pa)) (q_n (V 85 j)) (q_n (V 86 j)))))), (3, .int (nI j)), (0, .ref (σ.2.1 19)), (1, .int (nI pa))] dX3_storyOf_27 rfl (by decide) rfl ?_
        refine q_iincN C [(3, .int (nI (j + 1))), (2, .int ((q_mstory V pa j) + ((V 88 j) * nI (q_mplaces V j pa (q_n (V 73 pa)) (q_n (V 74 pa)) (q_n (V 85 j)) (q_n (V 86 j)))))), (0, .ref (σ.2.1 19)), (1, .int (nI pa))] dX3_storyOf_28 1 rfl (by decide) rfl ?_
        refine q_goto C 4 dX3_storyOf_31 (by decide) ?_
        refine q_sub (lv' := [(2, .int ((q_mstory V pa j) + ((V 88 j) * nI (q_mplaces V j pa (q_n (V 73 pa)) (q_n (V 74 pa)) (q_n (V 85 j)) (q_n (V 86 j)))))), (3, .int (nI (j + 1))), (0, .ref (σ.2.1 19)), (1, .int (nI pa))]) [1, 0, 2, 3] rfl ?_
        exact ihL_1 (j + 1) (by omega) (by omega)
  refine q_sub (lv' := [(2, .int (nI 0)), (3, .int (nI 0)), (0, .ref (σ.2.1 19)), (1, .int (nI pa))]) [1, 0, 2, 3] rfl ?_
  exact L_1 _ 0 (Nat.zero_le _) (Nat.lt_succ_self _)
abbrev rX3_asks : Room := { frames := 3, cells := 0, slots := 0, locals := 55 }
theorem iX3_asks_X3 : ∀ w ∈ u_ws RX3 TX3 26, w ∈ wsX3_asks := by decide +kernel
set_option maxHeartbeats 4000000 in
set_option maxRecDepth 100000 in
/-- asks -/
theorem kX3_asks (l : Launch) (σ : q_E) (V : q_V) (G : q_G) {n : Nat} (hn : V 19 7 = nI n) (hn2 : n ≤ 12) (x : Int32) : q_Mi l yX3_asks wsX3_asks rX3_asks σ [.ref (σ.2.1 19), .int x] V G (fun r V' G' => ((q_ok n x ∧ (1 : Int32) = r ∧ q_up V 19 0 (nI 0) = V') ∨ (¬ q_ok n x ∧ (0 : Int32) = r ∧ q_up V 19 0 (nI 1) = V')) ∧ G = G') 0 0 := by
  refine q_Mi_of (cc := cX3_asks) (maxL := 2) (lv := [(0, .ref (σ.2.1 19)), (1, .int x)]) (by decide +kernel) rfl (Nat.le_of_ble_eq_true rfl) rfl ?_
  intro p e s m args below meth c Q C hR
  refine q_aload_n C dX3_asks_0 rfl 0 rfl ?_
  refine q_aload_n C dX3_asks_1 rfl 0 rfl ?_
  refine q_iload_n C dX3_asks_2 rfl 1 rfl ?_
  refine q_callVi C (As := [.int x]) (rest := [.ref (σ.2.1 19)]) (k := 19) (by omega) q_enMO rfl rfl (kX3_isPattern l σ V G hn hn2 x) 1 gX3_asks_X3_isPattern rfl rfl rfl (by decide +kernel) ⟨Nat.le_of_ble_eq_true rfl, Nat.le_of_ble_eq_true rfl⟩ dX3_asks_3 rfl (Nat.le_of_ble_eq_true rfl) ⟨Nat.le_of_ble_eq_true rfl, Nat.le_of_ble_eq_true rfl⟩ (fun r_3 V_1 G_2 hq_3 => ?_)
  obtain ⟨hs_3, rfl, rfl⟩ := hq_3
  refine q_if_eq C 13 dX3_asks_6 (by decide) (fun c_6 => ?_) (fun c_6 => ?_)
  · skip
    have b_3 := (q_is_eq hs_3).mp c_6
    refine q_iconst C (nI 1) dX3_asks_13 (by decide) ?_
    refine q_put C (k := 19) (fi := 0) tyX3 tyX3_ok nmX3 (by omega) q_enMO rfl iX3_asks_X3 (by decide) (by decide +kernel) rfl rfl (by decide +kernel) (Nat.le_of_ble_eq_true rfl) (q_enMO |>.trans (by simp [q_up])) dX3_asks_14 ?_
    refine q_aload_n C dX3_asks_17 rfl 0 rfl ?_
    refine q_get C (k := 19) (fi := 0) (.int (nI 1)) (by omega) q_enMO rfl iX3_asks_X3 (by decide) (by decide +kernel) rfl (congrArg (fun z => some (Value.int z)) (q_up_self _ _ _ _)) dX3_asks_18 ?_
    refine q_if_ne C 28 dX3_asks_21 (by decide) (fun _ => ?_) (fun c_21 => absurd c_21 (by decide))
    refine q_iconst C (nI 0) dX3_asks_28 (by decide) ?_
    refine hR _ _ _ _ _ _ _ ?_ (by first | rfl | decide) (Nat.le_of_ble_eq_true rfl) (Nat.le_of_ble_eq_true rfl) dX3_asks_29
    exact ⟨Or.inr ⟨b_3, rfl, rfl⟩, rfl⟩
  · skip
    have b_3 := (q_is_ne hs_3).mp c_6
    refine q_iconst C (nI 0) dX3_asks_9 (by decide) ?_
    refine q_goto C 14 dX3_asks_10 (by decide) ?_
    refine q_put C (k := 19) (fi := 0) tyX3 tyX3_ok nmX3 (by omega) q_enMO rfl iX3_asks_X3 (by decide) (by decide +kernel) rfl rfl (by decide +kernel) (Nat.le_of_ble_eq_true rfl) (q_enMO |>.trans (by simp [q_up])) dX3_asks_14 ?_
    refine q_aload_n C dX3_asks_17 rfl 0 rfl ?_
    refine q_get C (k := 19) (fi := 0) (.int (nI 0)) (by omega) q_enMO rfl iX3_asks_X3 (by decide) (by decide +kernel) rfl (congrArg (fun z => some (Value.int z)) (q_up_self _ _ _ _)) dX3_asks_18 ?_
    refine q_if_ne C 28 dX3_asks_21 (by decide) (fun c_21 => absurd c_21 (by decide)) (fun _ => ?_)
    refine q_iconst C (nI 1) dX3_asks_24 (by decide) ?_
    refine q_goto C 29 dX3_asks_25 (by decide) ?_
    refine hR _ _ _ _ _ _ _ ?_ (by first | rfl | decide) (Nat.le_of_ble_eq_true rfl) (Nat.le_of_ble_eq_true rfl) dX3_asks_29
    exact ⟨Or.inl ⟨b_3, rfl, rfl⟩, rfl⟩
abbrev rX3_freeBelt : Room := { frames := 1, cells := 0, slots := 0, locals := 12 }
theorem iX3_freeBelt_X3 : ∀ w ∈ u_ws RX3 TX3 26, w ∈ wsX3_freeBelt := by decide +kernel
set_option maxHeartbeats 4000000 in
set_option maxRecDepth 100000 in
/-- freeBelt -/
theorem kX3_freeBelt (l : Launch) (σ : q_E) (V : q_V) (G : q_G) : q_Mi l yX3_freeBelt wsX3_freeBelt rX3_freeBelt σ [.ref (σ.2.1 19)] V G (fun r V' G' => (∃ k, k ≤ 20 ∧ (∀ b, b < k → ¬ V 78 b = -1) ∧ (k < 20 → V 78 k = -1) ∧ nI k = r) ∧ V = V' ∧ G = G') 0 0 := by
  refine q_Mi_of (cc := cX3_freeBelt) (maxL := 2) (lv := [(0, .ref (σ.2.1 19))]) (by decide +kernel) rfl (Nat.le_of_ble_eq_true rfl) rfl ?_
  intro p e s m args below meth c Q C hR
  refine q_iconst C (nI 0) dX3_freeBelt_0 (by decide) ?_
  refine q_istore_n C [(1, .int (nI 0)), (0, .ref (σ.2.1 19))] dX3_freeBelt_1 rfl (by decide) rfl ?_
  have L_1 : ∀ (nL_1 : Nat) (j : Nat) (hj : j ≤ 20) (ha : ∀ b, b < j → ¬ V 78 b = -1), 20 - j < nL_1 → q_W σ p l e rX3_freeBelt s m args below meth c Q 2 0 0 V G [(1, .int (nI j)), (0, .ref (σ.2.1 19))] 2 [] := by
    intro nL_1
    induction nL_1 with
    | zero => intro j hj ha h; exact absurd h (Nat.not_lt_zero _)
    | succ nL_1 ihL_1 =>
      intro j hj ha hmL_1
      refine q_iload_n C dX3_freeBelt_2 rfl 0 rfl ?_
      refine q_bipush C (nI 20) dX3_freeBelt_3 (by decide) ?_
      refine q_icmp_geN C 24 dX3_freeBelt_5 (by decide) (by omega) (by omega) (fun c_5 => ?_) (fun c_5 => ?_)
      · skip
        refine q_iload_n C dX3_freeBelt_24 rfl 0 rfl ?_
        refine hR _ _ _ _ _ _ _ ?_ rfl (Nat.le_of_ble_eq_true rfl) (Nat.le_of_ble_eq_true rfl) dX3_freeBelt_25
        exact ⟨⟨j, hj, ha, fun q => by first | exact c_15 | exact absurd q (by omega), rfl⟩, rfl, rfl⟩
      · skip
        refine q_aload_n C dX3_freeBelt_8 rfl 1 rfl ?_
        refine q_get C (k := 19) (fi := 13) (.ref (σ.2.1 78)) (by omega) q_enMO rfl iX3_freeBelt_X3 (by decide) (by decide +kernel) rfl rfl dX3_freeBelt_9 ?_
        refine q_iload_n C dX3_freeBelt_12 rfl 0 rfl ?_
        refine q_ialdN C (k := 78) (n := 20) ⟨by decide, by decide, by decide⟩ (by omega) (by decide) dX3_freeBelt_13 ?_
        refine q_iconst C ((-1)) dX3_freeBelt_14 (by decide) ?_
        refine q_icmp_eq C 24 dX3_freeBelt_15 (by decide) (fun c_15 => ?_) (fun c_15 => ?_)
        · skip
          refine q_iload_n C dX3_freeBelt_24 rfl 0 rfl ?_
          refine hR _ _ _ _ _ _ _ ?_ rfl (Nat.le_of_ble_eq_true rfl) (Nat.le_of_ble_eq_true rfl) dX3_freeBelt_25
          exact ⟨⟨j, hj, ha, fun q => by first | exact c_15 | exact absurd q (by omega), rfl⟩, rfl, rfl⟩
        · skip
          refine q_iincN C [(1, .int (nI (j + 1))), (0, .ref (σ.2.1 19))] dX3_freeBelt_18 0 rfl (by decide) rfl ?_
          refine q_goto C 2 dX3_freeBelt_21 (by decide) ?_
          refine q_sub (lv' := [(1, .int (nI (j + 1))), (0, .ref (σ.2.1 19))]) [0, 1] rfl ?_
          exact ihL_1 (j + 1) (by omega) (lt_s ha c_15) (by omega)
  refine q_sub (lv' := [(1, .int (nI 0)), (0, .ref (σ.2.1 19))]) [0, 1] rfl ?_
  exact L_1 _ 0 (Nat.zero_le _) lt_0 (Nat.lt_succ_self _)
