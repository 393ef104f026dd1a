abbrev rL_low : Room := { frames := 1, cells := 0, slots := 0, locals := 12 }
set_option maxHeartbeats 4000000 in
set_option maxRecDepth 100000 in
/-- low -/
theorem kL_low (l : Launch) (σ : q_E) (V : q_V) (G : q_G) (x : Int32) {n : Nat} (h0 : 0 < n) (hn : n < 2 ^ 31) : q_Mi l yL_low wsL_low rL_low σ [.int x, .int (nI n)] V G (fun r V' G' => (∃ k, k < n ∧ nI k = r) ∧ V = V' ∧ G = G') 0 0 := by
  refine q_Mi_of (cc := cL_low) (maxL := 2) (lv := [(0, .int x), (1, .int (nI n))]) (by decide +kernel) rfl (Nat.le_of_ble_eq_true rfl) rfl ?_
  intro p e s m args below meth c Q C hR
  obtain ⟨a, ha, ea⟩ := z_mask x
  refine q_iload_n C dL_low_0 rfl 0 rfl ?_
  refine q_ldc C (nI 2147483647) dL_low_1 (by decide +kernel) ?_
  refine q_iand C dL_low_3 ?_
  refine q_stk (st' := [.int (nI a)]) (by exact congrArg (fun z => [Value.int z]) ea) ?_
  refine q_iload_n C dL_low_4 rfl 1 rfl ?_
  refine q_iremN C dL_low_5 (by omega) (by omega) (by omega) ?_
  refine hR _ _ _ _ _ _ _ ?_ rfl (Nat.le_of_ble_eq_true rfl) (Nat.le_of_ble_eq_true rfl) dL_low_6
  exact ⟨⟨a % n, Nat.mod_lt _ h0, rfl⟩, rfl, rfl⟩
abbrev rL_at : Room := { frames := 1, cells := 0, slots := 0, locals := 12 }
set_option maxHeartbeats 4000000 in
set_option maxRecDepth 100000 in
/-- at -/
theorem kL_at (l : Launch) (σ : q_E) (V : q_V) (G : q_G) {g x y : Nat} (hg : g < 2 ^ 31) (hx : x < 3) (hy : y < 3) : q_Mi l yL_at wsL_at rL_at σ [.int (nI g), .int (nI x), .int (nI y)] V G (fun r V' G' => nI (gat g x y) = r ∧ V = V' ∧ G = G') 0 0 := by
  refine q_Mi_of (cc := cL_at) (maxL := 3) (lv := [(0, .int (nI g)), (1, .int (nI x)), (2, .int (nI y))]) (by decide +kernel) rfl (Nat.le_of_ble_eq_true rfl) rfl ?_
  intro p e s m args below meth c Q C hR
  refine q_iload_n C dL_at_0 rfl 0 rfl ?_
  refine q_iconst C (nI 3) dL_at_1 (by decide) ?_
  refine q_iconst C (nI 3) dL_at_2 (by decide) ?_
  refine q_iload_n C dL_at_3 rfl 2 rfl ?_
  refine q_imulN C dL_at_4  ?_
  refine q_iload_n C dL_at_5 rfl 1 rfl ?_
  refine q_iaddN C dL_at_6  ?_
  refine q_imulN C dL_at_7  ?_
  refine q_ishrN C dL_at_8 (by omega) (by omega) ?_
  refine q_bipush C (nI 7) dL_at_9 (by decide) ?_
  refine q_iand7N C dL_at_11 ?_
  refine hR _ _ _ _ _ _ _ ?_ rfl (Nat.le_of_ble_eq_true rfl) (Nat.le_of_ble_eq_true rfl) dL_at_12
  exact ⟨rfl, rfl, rfl⟩
abbrev rL_wide : Room := { frames := 1, cells := 0, slots := 0, locals := 12 }
set_option maxHeartbeats 4000000 in
set_option maxRecDepth 100000 in
/-- wide -/
theorem kL_wide (l : Launch) (σ : q_E) (V : q_V) (G : q_G) {g : Nat} (hg : g < 2 ^ 31) : q_Mi l yL_wide wsL_wide rL_wide σ [.int (nI g)] V G (fun r V' G' => nI (gwd g) = r ∧ V = V' ∧ G = G') 0 0 := by
  refine q_Mi_of (cc := cL_wide) (maxL := 1) (lv := [(0, .int (nI g))]) (by decide +kernel) rfl (Nat.le_of_ble_eq_true rfl) rfl ?_
  intro p e s m args below meth c Q C hR
  refine q_iload_n C dL_wide_0 rfl 0 rfl ?_
  refine q_bipush C (nI 27) dL_wide_1 (by decide) ?_
  refine q_ishrN C dL_wide_3 (by omega) (by omega) ?_
  refine q_iconst C (nI 3) dL_wide_4 (by decide) ?_
  refine q_iand3N C dL_wide_5 ?_
  refine hR _ _ _ _ _ _ _ ?_ rfl (Nat.le_of_ble_eq_true rfl) (Nat.le_of_ble_eq_true rfl) dL_wide_6
  exact ⟨rfl, rfl, rfl⟩
abbrev rL_high : Room := { frames := 1, cells := 0, slots := 0, locals := 12 }
set_option maxHeartbeats 4000000 in
set_option maxRecDepth 100000 in
/-- high -/
theorem kL_high (l : Launch) (σ : q_E) (V : q_V) (G : q_G) {g : Nat} (hg : g < 2 ^ 31) : q_Mi l yL_high wsL_high rL_high σ [.int (nI g)] V G (fun r V' G' => nI (ghi g) = r ∧ V = V' ∧ G = G') 0 0 := by
  refine q_Mi_of (cc := cL_high) (maxL := 1) (lv := [(0, .int (nI g))]) (by decide +kernel) rfl (Nat.le_of_ble_eq_true rfl) rfl ?_
  intro p e s m args below meth c Q C hR
  refine q_iload_n C dL_high_0 rfl 0 rfl ?_
  refine q_bipush C (nI 29) dL_high_1 (by decide) ?_
  refine q_ishrN C dL_high_3 (by omega) (by omega) ?_
  refine q_iconst C (nI 3) dL_high_4 (by decide) ?_
  refine q_iand3N C dL_high_5 ?_
  refine hR _ _ _ _ _ _ _ ?_ rfl (Nat.le_of_ble_eq_true rfl) (Nat.le_of_ble_eq_true rfl) dL_high_6
  exact ⟨rfl, rfl, rfl⟩
abbrev rL_put : Room := { frames := 1, cells := 0, slots := 0, locals := 12 }
set_option maxHeartbeats 4000000 in
set_option maxRecDepth 100000 in
/-- put -/
theorem kL_put (l : Launch) (σ : q_E) (V : q_V) (G : q_G) (g : Nat) {x y col : Nat} (hx : x < 3) (hy : y < 3) (hc : col < 8) : q_Mi l yL_put wsL_put rL_put σ [.int (nI g), .int (nI x), .int (nI y), .int (nI col)] V G (fun r V' G' => nI (gset g (3 * y + x) col) = r ∧ V = V' ∧ G = G') 0 0 := by
  refine q_Mi_of (cc := cL_put) (maxL := 5) (lv := [(0, .int (nI g)), (1, .int (nI x)), (2, .int (nI y)), (3, .int (nI col))]) (by decide +kernel) rfl (Nat.le_of_ble_eq_true rfl) rfl ?_
  intro p e s m args below meth c Q C hR
  refine q_iconst C (nI 3) dL_put_0 (by decide) ?_
  refine q_iconst C (nI 3) dL_put_1 (by decide) ?_
  refine q_iload_n C dL_put_2 rfl 2 rfl ?_
  refine q_imulN C dL_put_3  ?_
  refine q_iload_n C dL_put_4 rfl 1 rfl ?_
  refine q_iaddN C dL_put_5  ?_
  refine q_imulN C dL_put_6  ?_
  refine q_istore C [(4, .int (nI (3 * ((3 * y) + x)))), (0, .int (nI g)), (1, .int (nI x)), (2, .int (nI y)), (3, .int (nI col))] dL_put_7 (by decide) rfl ?_
  refine q_iload_n C dL_put_9 rfl 1 rfl ?_
  refine q_bipush C (nI 7) dL_put_10 (by decide) ?_
  refine q_iload C dL_put_12 0 rfl ?_
  refine q_ishl C dL_put_14 ?_
  refine q_iconst C ((-1)) dL_put_15 (by decide) ?_
  refine q_ixor C dL_put_16 ?_
  refine q_iand C dL_put_17 ?_
  refine q_iload_n C dL_put_18 rfl 4 rfl ?_
  refine q_iload C dL_put_19 0 rfl ?_
  refine q_ishl C dL_put_21 ?_
  refine q_ior C dL_put_22 ?_
  refine hR _ _ _ _ _ _ _ ?_ rfl (Nat.le_of_ble_eq_true rfl) (Nat.le_of_ble_eq_true rfl) dL_put_23
  exact ⟨(gset_put (by omega) hc).symm, rfl, rfl⟩
abbrev rL_empty : Room := { frames := 1, cells := 0, slots := 0, locals := 12 }
set_option maxHeartbeats 4000000 in
set_option maxRecDepth 100000 in
/-- empty -/
theorem kL_empty (l : Launch) (σ : q_E) (V : q_V) (G : q_G) {x y : Nat} (hx : x < 4) (hy : y < 4) : q_Mi l yL_empty wsL_empty rL_empty σ [.int (nI x), .int (nI y)] V G (fun r V' G' => nI (gemp x y) = r ∧ V = V' ∧ G = G') 0 0 := by
  refine q_Mi_of (cc := cL_empty) (maxL := 2) (lv := [(0, .int (nI x)), (1, .int (nI y))]) (by decide +kernel) rfl (Nat.le_of_ble_eq_true rfl) rfl ?_
  intro p e s m args below meth c Q C hR
  refine q_iload_n C dL_empty_0 rfl 0 rfl ?_
  refine q_bipush C (nI 27) dL_empty_1 (by decide) ?_
  refine q_ishl C dL_empty_3 ?_
  refine q_iload_n C dL_empty_4 rfl 1 rfl ?_
  refine q_bipush C (nI 29) dL_empty_5 (by decide) ?_
  refine q_ishl C dL_empty_7 ?_
  refine q_ior C dL_empty_8 ?_
  refine hR _ _ _ _ _ _ _ ?_ rfl (Nat.le_of_ble_eq_true rfl) (Nat.le_of_ble_eq_true rfl) dL_empty_9
  exact ⟨(gemp_facts x hx y hy).1.symm, rfl, rfl⟩
abbrev rL_turned : Room := { frames := 2, cells := 0, slots := 0, locals := 36 }
set_option maxHeartbeats 4000000 in
set_option maxRecDepth 100000 in
/-- turned -/
theorem kL_turned (l : Launch) (σ : q_E) (V : q_V) (G : q_G) {g : Nat} (hg : ggd g) : q_Mi l yL_turned wsL_turned rL_turned σ [.int (nI g)] V G (fun r V' G' => nI (gtrn g) = r ∧ V = V' ∧ G = G') 0 0 := by
  refine q_Mi_of (cc := cL_turned) (maxL := 4) (lv := [(0, .int (nI g))]) (by decide +kernel) rfl (Nat.le_of_ble_eq_true rfl) rfl ?_
  intro p e s m args below meth c Q C hR
  have hgg := hg
  obtain ⟨hg31, hw1, hw3, hh1, hh3, -⟩ := hgg
  refine q_iload_n C dL_turned_0 rfl 0 rfl ?_
  refine q_callSi C (As := [.int (nI g)]) (rest := []) (kL_high l σ V G (g := g) (by omega)) 1 gL_turned_L_high rfl rfl rfl (by decide +kernel) ⟨Nat.le_of_ble_eq_true rfl, Nat.le_of_ble_eq_true rfl⟩ dL_turned_1 rfl (Nat.le_of_ble_eq_true rfl) ⟨Nat.le_of_ble_eq_true rfl, Nat.le_of_ble_eq_true rfl⟩ (fun r_1 V_1 G_2 hq_1 => ?_)
  obtain ⟨rfl, rfl, rfl⟩ := hq_1
  refine q_iload_n C dL_turned_4 rfl 0 rfl ?_
  refine q_callSi C (As := [.int (nI g)]) (rest := [.int (nI (ghi g))]) (kL_wide l σ V G (g := g) (by omega)) 1 gL_turned_L_wide rfl rfl rfl (by decide +kernel) ⟨Nat.le_of_ble_eq_true rfl, Nat.le_of_ble_eq_true rfl⟩ dL_turned_5 rfl (Nat.le_of_ble_eq_true rfl) ⟨Nat.le_of_ble_eq_true rfl, Nat.le_of_ble_eq_true rfl⟩ (fun r_5 V_3 G_4 hq_5 => ?_)
  obtain ⟨rfl, rfl, rfl⟩ := hq_5
  refine q_callSi C (As := [.int (nI (ghi g)), .int (nI (gwd g))]) (rest := []) (kL_empty l σ V G (x := ghi g) (y := gwd g) (by omega) (by omega)) 2 gL_turned_L_empty rfl rfl rfl (by decide +kernel) ⟨Nat.le_of_ble_eq_true rfl, Nat.le_of_ble_eq_true rfl⟩ dL_turned_8 rfl (Nat.le_of_ble_eq_true rfl) ⟨Nat.le_of_ble_eq_true rfl, Nat.le_of_ble_eq_true rfl⟩ (fun r_8 V_5 G_6 hq_8 => ?_)
  obtain ⟨rfl, rfl, rfl⟩ := hq_8
  refine q_istore_n C [(1, .int (nI (gemp (ghi g) (gwd g)))), (0, .int (nI g))] dL_turned_11 rfl (by decide) rfl ?_
  refine q_iconst C (nI 0) dL_turned_12 (by decide) ?_
  refine q_istore_n C [(2, .int (nI 0)), (1, .int (nI (gemp (ghi g) (gwd g)))), (0, .int (nI g))] dL_turned_13 rfl (by decide) rfl ?_
  have L_7 : ∀ (nL_7 : Nat) (x t : Nat) (hx : x ≤ gwd g) (ht : ztr g t x 0), gwd g - x < nL_7 → q_W σ p l e rL_turned s m args below meth c Q 4 0 0 V G [(1, .int (nI t)), (2, .int (nI x)), (0, .int (nI g))] 14 [] := by
    intro nL_7
    induction nL_7 with
    | zero => intro x t hx ht h; exact absurd h (Nat.not_lt_zero _)
    | succ nL_7 ihL_7 =>
      intro x t hx ht hmL_7
      refine q_iload_n C dL_turned_14 rfl 1 rfl ?_
      refine q_iload_n C dL_turned_15 rfl 2 rfl ?_
      refine q_callSi C (As := [.int (nI g)]) (rest := [.int (nI x)]) (kL_wide l σ V G (g := g) (by omega)) 1 gL_turned_L_wide rfl rfl rfl (by decide +kernel) ⟨Nat.le_of_ble_eq_true rfl, Nat.le_of_ble_eq_true rfl⟩ dL_turned_16 rfl (Nat.le_of_ble_eq_true rfl) ⟨Nat.le_of_ble_eq_true rfl, Nat.le_of_ble_eq_true rfl⟩ (fun r_16 V_8 G_9 hq_16 => ?_)
      obtain ⟨rfl, rfl, rfl⟩ := hq_16
      refine q_icmp_geN C 64 dL_turned_19 (by decide) (by omega) (by omega) (fun c_19 => ?_) (fun c_19 => ?_)
      · skip
        refine q_iload_n C dL_turned_64 rfl 0 rfl ?_
        refine hR _ _ _ _ _ _ _ ?_ rfl (Nat.le_of_ble_eq_true rfl) (Nat.le_of_ble_eq_true rfl) dL_turned_65
        obtain rfl : x = gwd g := by omega
        exact ⟨by rw [ztr_end hg ht], rfl, rfl⟩
      · skip
        refine q_iconst C (nI 0) dL_turned_22 (by decide) ?_
        refine q_istore_n C [(3, .int (nI 0)), (1, .int (nI t)), (2, .int (nI x)), (0, .int (nI g))] dL_turned_23 rfl (by decide) rfl ?_
        have L_10 : ∀ (nL_10 : Nat) (y u : Nat) (hy : y ≤ ghi g) (hu : ztr g u x y), ghi g - y < nL_10 → q_W σ p l e rL_turned s m args below meth c Q 4 0 0 V G [(1, .int (nI u)), (3, .int (nI y)), (0, .int (nI g)), (2, .int (nI x))] 24 [] := by
          intro nL_10
          induction nL_10 with
          | zero => intro y u hy hu h; exact absurd h (Nat.not_lt_zero _)
          | succ nL_10 ihL_10 =>
            intro y u hy hu hmL_10
            refine q_iload_n C dL_turned_24 rfl 1 rfl ?_
            refine q_iload_n C dL_turned_25 rfl 2 rfl ?_
            refine q_callSi C (As := [.int (nI g)]) (rest := [.int (nI y)]) (kL_high l σ V G (g := g) (by omega)) 1 gL_turned_L_high rfl rfl rfl (by decide +kernel) ⟨Nat.le_of_ble_eq_true rfl, Nat.le_of_ble_eq_true rfl⟩ dL_turned_26 rfl (Nat.le_of_ble_eq_true rfl) ⟨Nat.le_of_ble_eq_true rfl, Nat.le_of_ble_eq_true rfl⟩ (fun r_26 V_11 G_12 hq_26 => ?_)
            obtain ⟨rfl, rfl, rfl⟩ := hq_26
            refine q_icmp_geN C 58 dL_turned_29 (by decide) (by omega) (by omega) (fun c_29 => ?_) (fun c_29 => ?_)
            · skip
              refine q_iincN C [(2, .int (nI (x + 1))), (1, .int (nI u)), (3, .int (nI y)), (0, .int (nI g))] dL_turned_58 3 rfl (by decide) rfl ?_
              refine q_goto C 14 dL_turned_61 (by decide) ?_
              refine q_sub (lv' := [(1, .int (nI u)), (2, .int (nI (x + 1))), (0, .int (nI g))]) [1, 0, 3] rfl ?_
              exact ihL_7 (x + 1) _ (by omega) (ztr_row (by rw [show ghi g = y by omega]; exact hu)) (by omega)
            · skip
              refine q_iload_n C dL_turned_32 rfl 0 rfl ?_
              refine q_iload_n C dL_turned_33 rfl 2 rfl ?_
              refine q_callSi C (As := [.int (nI g)]) (rest := [.int (nI u)]) (kL_high l σ V G (g := g) (by omega)) 1 gL_turned_L_high rfl rfl rfl (by decide +kernel) ⟨Nat.le_of_ble_eq_true rfl, Nat.le_of_ble_eq_true rfl⟩ dL_turned_34 rfl (Nat.le_of_ble_eq_true rfl) ⟨Nat.le_of_ble_eq_true rfl, Nat.le_of_ble_eq_true rfl⟩ (fun r_34 V_13 G_14 hq_34 => ?_)
              obtain ⟨rfl, rfl, rfl⟩ := hq_34
              refine q_iconst C (nI 1) dL_turned_37 (by decide) ?_
              refine q_isubN C dL_turned_38 (by omega) ?_
              refine q_iload_n C dL_turned_39 rfl 1 rfl ?_
              refine q_isubN C dL_turned_40 (by omega) ?_
              refine q_iload_n C dL_turned_41 rfl 3 rfl ?_
              refine q_iload_n C dL_turned_42 rfl 2 rfl ?_
              refine q_iload_n C dL_turned_43 rfl 3 rfl ?_
              refine q_iload_n C dL_turned_44 rfl 1 rfl ?_
              refine q_callSi C (As := [.int (nI g), .int (nI x), .int (nI y)]) (rest := [.int (nI x), .int (nI (((ghi g) - 1) - y)), .int (nI u)]) (kL_at l σ V G (g := g) (x := x) (y := y) (by omega) (by omega) (by omega)) 3 gL_turned_L_at rfl rfl rfl (by decide +kernel) ⟨Nat.le_of_ble_eq_true rfl, Nat.le_of_ble_eq_true rfl⟩ dL_turned_45 rfl (Nat.le_of_ble_eq_true rfl) ⟨Nat.le_of_ble_eq_true rfl, Nat.le_of_ble_eq_true rfl⟩ (fun r_45 V_15 G_16 hq_45 => ?_)
              obtain ⟨rfl, rfl, rfl⟩ := hq_45
              refine q_callSi C (As := [.int (nI u), .int (nI (((ghi g) - 1) - y)), .int (nI x), .int (nI (gat g x y))]) (rest := []) (kL_put l σ V G u (x := ((ghi g) - 1) - y) (y := x) (col := gat g x y) (by omega) (by omega) (gat_lt _ _ _)) 4 gL_turned_L_put rfl rfl rfl (by decide +kernel) ⟨Nat.le_of_ble_eq_true rfl, Nat.le_of_ble_eq_true rfl⟩ dL_turned_48 rfl (Nat.le_of_ble_eq_true rfl) ⟨Nat.le_of_ble_eq_true rfl, Nat.le_of_ble_eq_true rfl⟩ (fun r_48 V_17 G_18 hq_48 => ?_)
              obtain ⟨rfl, rfl, rfl⟩ := hq_48
              refine q_istore_n C [(1, .int (nI (gset u (3 * x + (((ghi g) - 1) - y)) (gat g x y)))), (3, .int (nI y)), (0, .int (nI g)), (2, .int (nI x))] dL_turned_51 rfl (by decide) rfl ?_
              refine q_iincN C [(3, .int (nI (y + 1))), (1, .int (nI (gset u (3 * x + (((ghi g) - 1) - y)) (gat g x y)))), (0, .int (nI g)), (2, .int (nI x))] dL_turned_52 1 rfl (by decide) rfl ?_
              refine q_goto C 24 dL_turned_55 (by decide) ?_
              refine q_sub (lv' := [(1, .int (nI (gset u (3 * x + (((ghi g) - 1) - y)) (gat g x y)))), (3, .int (nI (y + 1))), (0, .int (nI g)), (2, .int (nI x))]) [1, 0, 2, 3] rfl ?_
              exact ihL_10 (y + 1) _ (by omega) (ztr_step hg (by omega) (by omega) hu) (by omega)
        refine q_sub (lv' := [(1, .int (nI t)), (3, .int (nI 0)), (0, .int (nI g)), (2, .int (nI x))]) [1, 0, 3, 2] rfl ?_
        exact L_10 _ 0 _ (Nat.zero_le _) ht (Nat.lt_succ_self _)
  refine q_sub (lv' := [(1, .int (nI (gemp (ghi g) (gwd g)))), (2, .int (nI 0)), (0, .int (nI g))]) [1, 0, 2] rfl ?_
  exact L_7 _ 0 _ (Nat.zero_le _) (ztr_0 hg) (Nat.lt_succ_self _)
abbrev rL_exchanged : Room := { frames := 2, cells := 0, slots := 0, locals := 36 }
set_option maxHeartbeats 4000000 in
set_option maxRecDepth 100000 in
/-- exchanged -/
theorem kL_exchanged (l : Launch) (σ : q_E) (V : q_V) (G : q_G) {g : Nat} (hg : ggd g) : q_Mi l yL_exchanged wsL_exchanged rL_exchanged σ [.int (nI g)] V G (fun r V' G' => nI (gexc g) = r ∧ V = V' ∧ G = G') 0 0 := by
  refine q_Mi_of (cc := cL_exchanged) (maxL := 4) (lv := [(0, .int (nI g))]) (by decide +kernel) rfl (Nat.le_of_ble_eq_true rfl) rfl ?_
  intro p e s m args below meth c Q C hR
  have hgg := hg
  obtain ⟨hg31, hw1, hw3, hh1, hh3, -⟩ := hgg
  refine q_iload_n C dL_exchanged_0 rfl 0 rfl ?_
  refine q_callSi C (As := [.int (nI g)]) (rest := []) (kL_wide l σ V G (g := g) (by omega)) 1 gL_exchanged_L_wide rfl rfl rfl (by decide +kernel) ⟨Nat.le_of_ble_eq_true rfl, Nat.le_of_ble_eq_true rfl⟩ dL_exchanged_1 rfl (Nat.le_of_ble_eq_true rfl) ⟨Nat.le_of_ble_eq_true rfl, Nat.le_of_ble_eq_true rfl⟩ (fun r_1 V_1 G_2 hq_1 => ?_)
  obtain ⟨rfl, rfl, rfl⟩ := hq_1
  refine q_iload_n C dL_exchanged_4 rfl 0 rfl ?_
  refine q_callSi C (As := [.int (nI g)]) (rest := [.int (nI (gwd g))]) (kL_high l σ V G (g := g) (by omega)) 1 gL_exchanged_L_high rfl rfl rfl (by decide +kernel) ⟨Nat.le_of_ble_eq_true rfl, Nat.le_of_ble_eq_true rfl⟩ dL_exchanged_5 rfl (Nat.le_of_ble_eq_true rfl) ⟨Nat.le_of_ble_eq_true rfl, Nat.le_of_ble_eq_true rfl⟩ (fun r_5 V_3 G_4 hq_5 => ?_)
  obtain ⟨rfl, rfl, rfl⟩ := hq_5
  refine q_callSi C (As := [.int (nI (gwd g)), .int (nI (ghi g))]) (rest := []) (kL_empty l σ V G (x := gwd g) (y := ghi g) (by omega) (by omega)) 2 gL_exchanged_L_empty rfl rfl rfl (by decide +kernel) ⟨Nat.le_of_ble_eq_true rfl, Nat.le_of_ble_eq_true rfl⟩ dL_exchanged_8 rfl (Nat.le_of_ble_eq_true rfl) ⟨Nat.le_of_ble_eq_true rfl, Nat.le_of_ble_eq_true rfl⟩ (fun r_8 V_5 G_6 hq_8 => ?_)
  obtain ⟨rfl, rfl, rfl⟩ := hq_8
  refine q_istore_n C [(1, .int (nI (gemp (gwd g) (ghi g)))), (0, .int (nI g))] dL_exchanged_11 rfl (by decide) rfl ?_
  refine q_iconst C (nI 0) dL_exchanged_12 (by decide) ?_
  refine q_istore_n C [(2, .int (nI 0)), (1, .int (nI (gemp (gwd g) (ghi g)))), (0, .int (nI g))] dL_exchanged_13 rfl (by decide) rfl ?_
  have L_7 : ∀ (nL_7 : Nat) (x t : Nat) (hx : x ≤ gwd g) (ht : zex g t x 0), gwd g - x < nL_7 → q_W σ p l e rL_exchanged s m args below meth c Q 4 0 0 V G [(1, .int (nI t)), (2, .int (nI x)), (0, .int (nI g))] 14 [] := by
    intro nL_7
    induction nL_7 with
    | zero => intro x t hx ht h; exact absurd h (Nat.not_lt_zero _)
    | succ nL_7 ihL_7 =>
      intro x t hx ht hmL_7
      refine q_iload_n C dL_exchanged_14 rfl 1 rfl ?_
      refine q_iload_n C dL_exchanged_15 rfl 2 rfl ?_
      refine q_callSi C (As := [.int (nI g)]) (rest := [.int (nI x)]) (kL_wide l σ V G (g := g) (by omega)) 1 gL_exchanged_L_wide rfl rfl rfl (by decide +kernel) ⟨Nat.le_of_ble_eq_true rfl, Nat.le_of_ble_eq_true rfl⟩ dL_exchanged_16 rfl (Nat.le_of_ble_eq_true rfl) ⟨Nat.le_of_ble_eq_true rfl, Nat.le_of_ble_eq_true rfl⟩ (fun r_16 V_8 G_9 hq_16 => ?_)
      obtain ⟨rfl, rfl, rfl⟩ := hq_16
      refine q_icmp_geN C 64 dL_exchanged_19 (by decide) (by omega) (by omega) (fun c_19 => ?_) (fun c_19 => ?_)
      · skip
        refine q_iload_n C dL_exchanged_64 rfl 0 rfl ?_
        refine hR _ _ _ _ _ _ _ ?_ rfl (Nat.le_of_ble_eq_true rfl) (Nat.le_of_ble_eq_true rfl) dL_exchanged_65
        obtain rfl : x = gwd g := by omega
        exact ⟨by rw [zex_end hg ht], rfl, rfl⟩
      · skip
        refine q_iconst C (nI 0) dL_exchanged_22 (by decide) ?_
        refine q_istore_n C [(3, .int (nI 0)), (1, .int (nI t)), (2, .int (nI x)), (0, .int (nI g))] dL_exchanged_23 rfl (by decide) rfl ?_
        have L_10 : ∀ (nL_10 : Nat) (y u : Nat) (hy : y ≤ ghi g) (hu : zex g u x y), ghi g - y < nL_10 → q_W σ p l e rL_exchanged s m args below meth c Q 4 0 0 V G [(1, .int (nI u)), (3, .int (nI y)), (0, .int (nI g)), (2, .int (nI x))] 24 [] := by
          intro nL_10
          induction nL_10 with
          | zero => intro y u hy hu h; exact absurd h (Nat.not_lt_zero _)
          | succ nL_10 ihL_10 =>
            intro y u hy hu hmL_10
            refine q_iload_n C dL_exchanged_24 rfl 1 rfl ?_
            refine q_iload_n C dL_exchanged_25 rfl 2 rfl ?_
            refine q_callSi C (As := [.int (nI g)]) (rest := [.int (nI y)]) (kL_high l σ V G (g := g) (by omega)) 1 gL_exchanged_L_high rfl rfl rfl (by decide +kernel) ⟨Nat.le_of_ble_eq_true rfl, Nat.le_of_ble_eq_true rfl⟩ dL_exchanged_26 rfl (Nat.le_of_ble_eq_true rfl) ⟨Nat.le_of_ble_eq_true rfl, Nat.le_of_ble_eq_true rfl⟩ (fun r_26 V_11 G_12 hq_26 => ?_)
            obtain ⟨rfl, rfl, rfl⟩ := hq_26
            refine q_icmp_geN C 58 dL_exchanged_29 (by decide) (by omega) (by omega) (fun c_29 => ?_) (fun c_29 => ?_)
            · skip
              refine q_iincN C [(2, .int (nI (x + 1))), (1, .int (nI u)), (3, .int (nI y)), (0, .int (nI g))] dL_exchanged_58 3 rfl (by decide) rfl ?_
              refine q_goto C 14 dL_exchanged_61 (by decide) ?_
              refine q_sub (lv' := [(1, .int (nI u)), (2, .int (nI (x + 1))), (0, .int (nI g))]) [1, 0, 3] rfl ?_
              exact ihL_7 (x + 1) _ (by omega) (zex_row (by omega) (by rw [show ghi g = y by omega]; exact hu)) (by omega)
            · skip
              refine q_iload_n C dL_exchanged_32 rfl 0 rfl ?_
              refine q_iload_n C dL_exchanged_33 rfl 2 rfl ?_
              refine q_callSi C (As := [.int (nI g)]) (rest := [.int (nI u)]) (kL_wide l σ V G (g := g) (by omega)) 1 gL_exchanged_L_wide rfl rfl rfl (by decide +kernel) ⟨Nat.le_of_ble_eq_true rfl, Nat.le_of_ble_eq_true rfl⟩ dL_exchanged_34 rfl (Nat.le_of_ble_eq_true rfl) ⟨Nat.le_of_ble_eq_true rfl, Nat.le_of_ble_eq_true rfl⟩ (fun r_34 V_13 G_14 hq_34 => ?_)
              obtain ⟨rfl, rfl, rfl⟩ := hq_34
              refine q_iconst C (nI 1) dL_exchanged_37 (by decide) ?_
              refine q_isubN C dL_exchanged_38 (by omega) ?_
              refine q_iload_n C dL_exchanged_39 rfl 3 rfl ?_
              refine q_isubN C dL_exchanged_40 (by omega) ?_
              refine q_iload_n C dL_exchanged_41 rfl 1 rfl ?_
              refine q_iload_n C dL_exchanged_42 rfl 2 rfl ?_
              refine q_iload_n C dL_exchanged_43 rfl 3 rfl ?_
              refine q_iload_n C dL_exchanged_44 rfl 1 rfl ?_
              refine q_callSi C (As := [.int (nI g), .int (nI x), .int (nI y)]) (rest := [.int (nI y), .int (nI (((gwd g) - 1) - x)), .int (nI u)]) (kL_at l σ V G (g := g) (x := x) (y := y) (by omega) (by omega) (by omega)) 3 gL_exchanged_L_at rfl rfl rfl (by decide +kernel) ⟨Nat.le_of_ble_eq_true rfl, Nat.le_of_ble_eq_true rfl⟩ dL_exchanged_45 rfl (Nat.le_of_ble_eq_true rfl) ⟨Nat.le_of_ble_eq_true rfl, Nat.le_of_ble_eq_true rfl⟩ (fun r_45 V_15 G_16 hq_45 => ?_)
              obtain ⟨rfl, rfl, rfl⟩ := hq_45
              refine q_callSi C (As := [.int (nI u), .int (nI (((gwd g) - 1) - x)), .int (nI y), .int (nI (gat g x y))]) (rest := []) (kL_put l σ V G u (x := ((gwd g) - 1) - x) (y := y) (col := gat g x y) (by omega) (by omega) (gat_lt _ _ _)) 4 gL_exchanged_L_put rfl rfl rfl (by decide +kernel) ⟨Nat.le_of_ble_eq_true rfl, Nat.le_of_ble_eq_true rfl⟩ dL_exchanged_48 rfl (Nat.le_of_ble_eq_true rfl) ⟨Nat.le_of_ble_eq_true rfl, Nat.le_of_ble_eq_true rfl⟩ (fun r_48 V_17 G_18 hq_48 => ?_)
              obtain ⟨rfl, rfl, rfl⟩ := hq_48
              refine q_istore_n C [(1, .int (nI (gset u (3 * y + (((gwd g) - 1) - x)) (gat g x y)))), (3, .int (nI y)), (0, .int (nI g)), (2, .int (nI x))] dL_exchanged_51 rfl (by decide) rfl ?_
              refine q_iincN C [(3, .int (nI (y + 1))), (1, .int (nI (gset u (3 * y + (((gwd g) - 1) - x)) (gat g x y)))), (0, .int (nI g)), (2, .int (nI x))] dL_exchanged_52 1 rfl (by decide) rfl ?_
              refine q_goto C 24 dL_exchanged_55 (by decide) ?_
              refine q_sub (lv' := [(1, .int (nI (gset u (3 * y + (((gwd g) - 1) - x)) (gat g x y)))), (3, .int (nI (y + 1))), (0, .int (nI g)), (2, .int (nI x))]) [1, 0, 2, 3] rfl ?_
              exact ihL_10 (y + 1) _ (by omega) (zex_step hg (by omega) (by omega) hu) (by omega)
        refine q_sub (lv' := [(1, .int (nI t)), (3, .int (nI 0)), (0, .int (nI g)), (2, .int (nI x))]) [1, 0, 3, 2] rfl ?_
        exact L_10 _ 0 _ (Nat.zero_le _) ht (Nat.lt_succ_self _)
  refine q_sub (lv' := [(1, .int (nI (gemp (gwd g) (ghi g)))), (2, .int (nI 0)), (0, .int (nI g))]) [1, 0, 2] rfl ?_
  exact L_7 _ 0 _ (Nat.zero_le _) (zex_0 hg) (Nat.lt_succ_self _)
abbrev rL_isImage : Room := { frames := 3, cells := 0, slots := 0, locals := 59 }
set_option maxHeartbeats 4000000 in
set_option maxRecDepth 100000 in
/-- isImage -/
theorem kL_isImage (l : Launch) (σ : q_E) (V : q_V) (G : q_G) {g : Nat} (hg : ggd g) {o : Nat} (ho : o < 2 ^ 31) : q_Mi l yL_isImage wsL_isImage rL_isImage σ [.int (nI g), .int (nI o)] V G (fun r V' G' => q_is (∃ i, i < 4 ∧ (gtk i g = o ∨ gtk i (gexc g) = o)) r ∧ V = V' ∧ G = G') 0 0 := by
  refine q_Mi_of (cc := cL_isImage) (maxL := 5) (lv := [(0, .int (nI g)), (1, .int (nI o))]) (by decide +kernel) rfl (Nat.le_of_ble_eq_true rfl) rfl ?_
  intro p e s m args below meth c Q C hR
  have hgg := hg
  obtain ⟨hg31, hw1, hw3, hh1, hh3, -⟩ := hgg
  refine q_iload_n C dL_isImage_0 rfl 0 rfl ?_
  refine q_istore_n C [(2, .int (nI g)), (0, .int (nI g)), (1, .int (nI o))] dL_isImage_1 rfl (by decide) rfl ?_
  refine q_iload_n C dL_isImage_2 rfl 1 rfl ?_
  refine q_callSi C (As := [.int (nI g)]) (rest := []) (kL_exchanged l σ V G (g := g) hg) 1 gL_isImage_L_exchanged rfl rfl rfl (by decide +kernel) ⟨Nat.le_of_ble_eq_true rfl, Nat.le_of_ble_eq_true rfl⟩ dL_isImage_3 rfl (Nat.le_of_ble_eq_true rfl) ⟨Nat.le_of_ble_eq_true rfl, Nat.le_of_ble_eq_true rfl⟩ (fun r_3 V_1 G_2 hq_3 => ?_)
  obtain ⟨rfl, rfl, rfl⟩ := hq_3
  refine q_istore_n C [(3, .int (nI (gexc g))), (2, .int (nI g)), (0, .int (nI g)), (1, .int (nI o))] dL_isImage_6 rfl (by decide) rfl ?_
  refine q_iconst C (nI 0) dL_isImage_7 (by decide) ?_
  refine q_istore C [(4, .int (nI 0)), (3, .int (nI (gexc g))), (2, .int (nI g)), (0, .int (nI g)), (1, .int (nI o))] dL_isImage_8 (by decide) rfl ?_
  have L_3 : ∀ (nL_3 : Nat) (k : Nat) (hk : k ≤ 4) (hno : ∀ i, i < k → ¬ (gtk i g = o ∨ gtk i (gexc g) = o)), 4 - k < nL_3 → q_W σ p l e rL_isImage s m args below meth c Q 5 0 0 V G [(2, .int (nI (gtk k g))), (3, .int (nI (gtk k (gexc g)))), (4, .int (nI k)), (0, .int (nI g)), (1, .int (nI o))] 10 [] := by
    intro nL_3
    induction nL_3 with
    | zero => intro k hk hno h; exact absurd h (Nat.not_lt_zero _)
    | succ nL_3 ihL_3 =>
      intro k hk hno hmL_3
      have hb1 := (gtk_gd hg k).1
      have hb2 := (gtk_gd (gexc_facts hg).1 k).1
      refine q_iload C dL_isImage_10 2 rfl ?_
      refine q_iconst C (nI 4) dL_isImage_12 (by decide) ?_
      refine q_icmp_geN C 44 dL_isImage_13 (by decide) (by omega) (by omega) (fun c_13 => ?_) (fun c_13 => ?_)
      · skip
        refine q_iconst C (nI 0) dL_isImage_44 (by decide) ?_
        refine hR _ _ _ _ _ _ _ ?_ (by first | rfl | decide) (Nat.le_of_ble_eq_true rfl) (Nat.le_of_ble_eq_true rfl) dL_isImage_45
        exact ⟨q_is_n (fun ⟨i, hi, z⟩ => hno i (by omega) z), rfl, rfl⟩
      · skip
        refine q_iload_n C dL_isImage_16 rfl 0 rfl ?_
        refine q_iload_n C dL_isImage_17 rfl 4 rfl ?_
        refine q_icmp_eqN C 26 dL_isImage_18 (by decide) (by omega) (by omega) (fun c_18 => ?_) (fun c_18 => ?_)
        · skip
          refine q_iconst C (nI 1) dL_isImage_26 (by decide) ?_
          refine hR _ _ _ _ _ _ _ ?_ (by first | rfl | decide) (Nat.le_of_ble_eq_true rfl) (Nat.le_of_ble_eq_true rfl) dL_isImage_27
          first | exact ⟨q_is_y ⟨k, by omega, Or.inl c_18⟩, rfl, rfl⟩ | exact ⟨q_is_y ⟨k, by omega, Or.inr c_23⟩, rfl, rfl⟩
        · skip
          refine q_iload_n C dL_isImage_21 rfl 1 rfl ?_
          refine q_iload_n C dL_isImage_22 rfl 4 rfl ?_
          refine q_icmp_neN C 28 dL_isImage_23 (by decide) (by omega) (by omega) (fun c_23 => ?_) (fun c_23 => ?_)
          · skip
            refine q_iload_n C dL_isImage_28 rfl 0 rfl ?_
            refine q_callSi C (As := [.int (nI (gtk k g))]) (rest := []) (kL_turned l σ V G (g := gtk k g) (gtk_gd hg k)) 1 gL_isImage_L_turned rfl rfl rfl (by decide +kernel) ⟨Nat.le_of_ble_eq_true rfl, Nat.le_of_ble_eq_true rfl⟩ dL_isImage_29 rfl (Nat.le_of_ble_eq_true rfl) ⟨Nat.le_of_ble_eq_true rfl, Nat.le_of_ble_eq_true rfl⟩ (fun r_29 V_4 G_5 hq_29 => ?_)
            obtain ⟨rfl, rfl, rfl⟩ := hq_29
            refine q_istore_n C [(2, .int (nI (gtrn (gtk k g)))), (3, .int (nI (gtk k (gexc g)))), (4, .int (nI k)), (0, .int (nI g)), (1, .int (nI o))] dL_isImage_32 rfl (by decide) rfl ?_
            refine q_iload_n C dL_isImage_33 rfl 1 rfl ?_
            refine q_callSi C (As := [.int (nI (gtk k (gexc g)))]) (rest := []) (kL_turned l σ V G (g := gtk k (gexc g)) (gtk_gd (gexc_facts hg).1 k)) 1 gL_isImage_L_turned rfl rfl rfl (by decide +kernel) ⟨Nat.le_of_ble_eq_true rfl, Nat.le_of_ble_eq_true rfl⟩ dL_isImage_34 rfl (Nat.le_of_ble_eq_true rfl) ⟨Nat.le_of_ble_eq_true rfl, Nat.le_of_ble_eq_true rfl⟩ (fun r_34 V_6 G_7 hq_34 => ?_)
            obtain ⟨rfl, rfl, rfl⟩ := hq_34
            refine q_istore_n C [(3, .int (nI (gtrn (gtk k (gexc g))))), (2, .int (nI (gtrn (gtk k g)))), (4, .int (nI k)), (0, .int (nI g)), (1, .int (nI o))] dL_isImage_37 rfl (by decide) rfl ?_
            refine q_iincN C [(4, .int (nI (k + 1))), (3, .int (nI (gtrn (gtk k (gexc g))))), (2, .int (nI (gtrn (gtk k g)))), (0, .int (nI g)), (1, .int (nI o))] dL_isImage_38 2 rfl (by decide) rfl ?_
            refine q_goto C 10 dL_isImage_41 (by decide) ?_
            refine q_sub (lv' := [(2, .int (nI (gtrn (gtk k g)))), (3, .int (nI (gtrn (gtk k (gexc g))))), (4, .int (nI (k + 1))), (0, .int (nI g)), (1, .int (nI o))]) [2, 1, 0, 3, 4] rfl ?_
            exact ihL_3 (k + 1) (by omega) (lt_s hno (fun z => z.elim c_18 c_23)) (by omega)
          · skip
            refine q_iconst C (nI 1) dL_isImage_26 (by decide) ?_
            refine hR _ _ _ _ _ _ _ ?_ (by first | rfl | decide) (Nat.le_of_ble_eq_true rfl) (Nat.le_of_ble_eq_true rfl) dL_isImage_27
            first | exact ⟨q_is_y ⟨k, by omega, Or.inl c_18⟩, rfl, rfl⟩ | exact ⟨q_is_y ⟨k, by omega, Or.inr c_23⟩, rfl, rfl⟩
  refine q_sub (lv' := [(2, .int (nI g)), (3, .int (nI (gexc g))), (4, .int (nI 0)), (0, .int (nI g)), (1, .int (nI o))]) [2, 1, 0, 3, 4] rfl ?_
  exact L_3 _ 0 (Nat.zero_le _) lt_0 (Nat.lt_succ_self _)
abbrev rL_needs : Room := { frames := 2, cells := 0, slots := 0, locals := 34 }
set_option maxHeartbeats 4000000 in
set_option maxRecDepth 100000 in
/-- needs -/
theorem kL_needs (l : Launch) (σ : q_E) (V : q_V) (G : q_G) {g : Nat} (hg : ggd g) {col : Nat} (hc : col < 8) : q_Mi l yL_needs wsL_needs rL_needs σ [.int (nI g), .int (nI col)] V G (fun r V' G' => nI (gneed g col) = r ∧ V = V' ∧ G = G') 0 0 := by
  refine q_Mi_of (cc := cL_needs) (maxL := 5) (lv := [(0, .int (nI g)), (1, .int (nI col))]) (by decide +kernel) rfl (Nat.le_of_ble_eq_true rfl) rfl ?_
  intro p e s m args below meth c Q C hR
  have hgg := hg
  obtain ⟨hg31, hw1, hw3, hh1, hh3, -⟩ := hgg
  refine q_iconst C (nI 0) dL_needs_0 (by decide) ?_
  refine q_istore_n C [(2, .int (nI 0)), (0, .int (nI g)), (1, .int (nI col))] dL_needs_1 rfl (by decide) rfl ?_
  refine q_iconst C (nI 0) dL_needs_2 (by decide) ?_
  refine q_istore_n C [(3, .int (nI 0)), (2, .int (nI 0)), (0, .int (nI g)), (1, .int (nI col))] dL_needs_3 rfl (by decide) rfl ?_
  have L_1 : ∀ (nL_1 : Nat) (x n : Nat) (hx : x ≤ gwd g) (hn : n = fb_sm (fun x => q_ct (fun y => gat g x y = col) (ghi g)) x), gwd g - x < nL_1 → q_W σ p l e rL_needs s m args below meth c Q 5 0 0 V G [(2, .int (nI n)), (3, .int (nI x)), (0, .int (nI g)), (1, .int (nI col))] 4 [] := by
    intro nL_1
    induction nL_1 with
    | zero => intro x n hx hn h; exact absurd h (Nat.not_lt_zero _)
    | succ nL_1 ihL_1 =>
      intro x n hx hn hmL_1
      refine q_iload_n C dL_needs_4 rfl 1 rfl ?_
      refine q_iload_n C dL_needs_5 rfl 2 rfl ?_
      refine q_callSi C (As := [.int (nI g)]) (rest := [.int (nI x)]) (kL_wide l σ V G (g := g) (by omega)) 1 gL_needs_L_wide rfl rfl rfl (by decide +kernel) ⟨Nat.le_of_ble_eq_true rfl, Nat.le_of_ble_eq_true rfl⟩ dL_needs_6 rfl (Nat.le_of_ble_eq_true rfl) ⟨Nat.le_of_ble_eq_true rfl, Nat.le_of_ble_eq_true rfl⟩ (fun r_6 V_2 G_3 hq_6 => ?_)
      obtain ⟨rfl, rfl, rfl⟩ := hq_6
      refine q_icmp_geN C 55 dL_needs_9 (by decide) (by omega) (by omega) (fun c_9 => ?_) (fun c_9 => ?_)
      · skip
        refine q_iload_n C dL_needs_55 rfl 0 rfl ?_
        refine hR _ _ _ _ _ _ _ ?_ rfl (Nat.le_of_ble_eq_true rfl) (Nat.le_of_ble_eq_true rfl) dL_needs_56
        refine ⟨?_, rfl, rfl⟩
        rw [hn, gneed, show x = gwd g by omega]
      · skip
        refine q_iconst C (nI 0) dL_needs_12 (by decide) ?_
        refine q_istore C [(4, .int (nI 0)), (2, .int (nI n)), (3, .int (nI x)), (0, .int (nI g)), (1, .int (nI col))] dL_needs_13 (by decide) rfl ?_
        have L_4 : ∀ (nL_4 : Nat) (y n2 : Nat) (hy : y ≤ ghi g) (hn2 : n2 = n + q_ct (fun y => gat g x y = col) y), ghi g - y < nL_4 → q_W σ p l e rL_needs s m args below meth c Q 5 0 0 V G [(2, .int (nI n2)), (4, .int (nI y)), (0, .int (nI g)), (1, .int (nI col)), (3, .int (nI x))] 15 [] := by
          intro nL_4
          induction nL_4 with
          | zero => intro y n2 hy hn2 h; exact absurd h (Nat.not_lt_zero _)
          | succ nL_4 ihL_4 =>
            intro y n2 hy hn2 hmL_4
            refine q_iload C dL_needs_15 1 rfl ?_
            refine q_iload_n C dL_needs_17 rfl 2 rfl ?_
            refine q_callSi C (As := [.int (nI g)]) (rest := [.int (nI y)]) (kL_high l σ V G (g := g) (by omega)) 1 gL_needs_L_high rfl rfl rfl (by decide +kernel) ⟨Nat.le_of_ble_eq_true rfl, Nat.le_of_ble_eq_true rfl⟩ dL_needs_18 rfl (Nat.le_of_ble_eq_true rfl) ⟨Nat.le_of_ble_eq_true rfl, Nat.le_of_ble_eq_true rfl⟩ (fun r_18 V_5 G_6 hq_18 => ?_)
            obtain ⟨rfl, rfl, rfl⟩ := hq_18
            refine q_icmp_geN C 49 dL_needs_21 (by decide) (by omega) (by omega) (fun c_21 => ?_) (fun c_21 => ?_)
            · skip
              refine q_iincN C [(3, .int (nI (x + 1))), (2, .int (nI n2)), (4, .int (nI y)), (0, .int (nI g)), (1, .int (nI col))] dL_needs_49 4 rfl (by decide) rfl ?_
              refine q_goto C 4 dL_needs_52 (by decide) ?_
              refine q_sub (lv' := [(2, .int (nI n2)), (3, .int (nI (x + 1))), (0, .int (nI g)), (1, .int (nI col))]) [1, 0, 3, 4] rfl ?_
              exact ihL_1 (x + 1) _ (by omega) (by rw [hn2, hn, fb_sm_succ, show y = ghi g by omega]) (by omega)
            · skip
              refine q_iload_n C dL_needs_24 rfl 0 rfl ?_
              refine q_iload_n C dL_needs_25 rfl 2 rfl ?_
              refine q_iload_n C dL_needs_26 rfl 4 rfl ?_
              refine q_iload C dL_needs_27 1 rfl ?_
              refine q_callSi C (As := [.int (nI g), .int (nI x), .int (nI y)]) (rest := [.int (nI n2)]) (kL_at l σ V G (g := g) (x := x) (y := y) (by omega) (by omega) (by omega)) 3 gL_needs_L_at rfl rfl rfl (by decide +kernel) ⟨Nat.le_of_ble_eq_true rfl, Nat.le_of_ble_eq_true rfl⟩ dL_needs_29 rfl (Nat.le_of_ble_eq_true rfl) ⟨Nat.le_of_ble_eq_true rfl, Nat.le_of_ble_eq_true rfl⟩ (fun r_29 V_7 G_8 hq_29 => ?_)
              obtain ⟨rfl, rfl, rfl⟩ := hq_29
              refine q_iload_n C dL_needs_32 rfl 3 rfl ?_
              have hl9 := gat_lt g x y
              refine q_icmp_neN C 40 dL_needs_33 (by decide) (by omega) (by omega) (fun c_33 => ?_) (fun c_33 => ?_)
              · skip
                refine q_iconst C (nI 0) dL_needs_40 (by decide) ?_
                refine q_iaddN C dL_needs_41  ?_
                refine q_istore_n C [(2, .int (nI (n2 + 0))), (4, .int (nI y)), (0, .int (nI g)), (1, .int (nI col)), (3, .int (nI x))] dL_needs_42 rfl (by decide) rfl ?_
                refine q_iincN C [(4, .int (nI (y + 1))), (2, .int (nI (n2 + 0))), (0, .int (nI g)), (1, .int (nI col)), (3, .int (nI x))] dL_needs_43 1 rfl (by decide) rfl ?_
                refine q_goto C 15 dL_needs_46 (by decide) ?_
                refine q_sub (lv' := [(2, .int (nI (n2 + 0))), (4, .int (nI (y + 1))), (0, .int (nI g)), (1, .int (nI col)), (3, .int (nI x))]) [1, 0, 2, 3, 4] rfl ?_
                exact ihL_4 (y + 1) _ (by omega) (by first | (rw [q_ct_n (p := fun y => gat g x y = col) c_33]; omega) | (rw [q_ct_y (p := fun y => gat g x y = col) c_33]; omega)) (by omega)
              · skip
                refine q_iconst C (nI 1) dL_needs_36 (by decide) ?_
                refine q_goto C 41 dL_needs_37 (by decide) ?_
                refine q_iaddN C dL_needs_41  ?_
                refine q_istore_n C [(2, .int (nI (n2 + 1))), (4, .int (nI y)), (0, .int (nI g)), (1, .int (nI col)), (3, .int (nI x))] dL_needs_42 rfl (by decide) rfl ?_
                refine q_iincN C [(4, .int (nI (y + 1))), (2, .int (nI (n2 + 1))), (0, .int (nI g)), (1, .int (nI col)), (3, .int (nI x))] dL_needs_43 1 rfl (by decide) rfl ?_
                refine q_goto C 15 dL_needs_46 (by decide) ?_
                refine q_sub (lv' := [(2, .int (nI (n2 + 1))), (4, .int (nI (y + 1))), (0, .int (nI g)), (1, .int (nI col)), (3, .int (nI x))]) [1, 0, 2, 3, 4] rfl ?_
                exact ihL_4 (y + 1) _ (by omega) (by first | (rw [q_ct_n (p := fun y => gat g x y = col) c_33]; omega) | (rw [q_ct_y (p := fun y => gat g x y = col) c_33]; omega)) (by omega)
        refine q_sub (lv' := [(2, .int (nI n)), (4, .int (nI 0)), (0, .int (nI g)), (1, .int (nI col)), (3, .int (nI x))]) [1, 0, 3, 4, 2] rfl ?_
        exact L_4 _ 0 n (Nat.zero_le _) rfl (Nat.lt_succ_self _)
  refine q_sub (lv' := [(2, .int (nI 0)), (3, .int (nI 0)), (0, .int (nI g)), (1, .int (nI col))]) [1, 0, 2, 3] rfl ?_
  exact L_1 _ 0 0 (Nat.zero_le _) rfl (Nat.lt_succ_self _)
abbrev rL_stands : Room := { frames := 2, cells := 0, slots := 0, locals := 34 }
set_option maxHeartbeats 4000000 in
set_option maxRecDepth 100000 in
/-- stands -/
theorem kL_stands (l : Launch) (σ : q_E) (V : q_V) (G : q_G) {sn : Nat} (hs : ggd sn) {g : Nat} (hg : ggd g) : q_Mi l yL_stands wsL_stands rL_stands σ [.int (nI sn), .int (nI g)] V G (fun r V' G' => nI (gstd sn g) = r ∧ V = V' ∧ G = G') 0 0 := by
  refine q_Mi_of (cc := cL_stands) (maxL := 8) (lv := [(0, .int (nI sn)), (1, .int (nI g))]) (by decide +kernel) rfl (Nat.le_of_ble_eq_true rfl) rfl ?_
  intro p e s m args below meth c Q C hR
  have hgg := hg
  obtain ⟨hg31, hw1, hw3, hh1, hh3, -⟩ := hgg
  have hss := hs
  obtain ⟨hs31, hsw1, hsw3, hsh1, hsh3, -⟩ := hss
  refine q_iconst C (nI 0) dL_stands_0 (by decide) ?_
  refine q_istore_n C [(2, .int (nI 0)), (0, .int (nI sn)), (1, .int (nI g))] dL_stands_1 rfl (by decide) rfl ?_
  refine q_iconst C (nI 0) dL_stands_2 (by decide) ?_
  refine q_istore_n C [(3, .int (nI 0)), (2, .int (nI 0)), (0, .int (nI sn)), (1, .int (nI g))] dL_stands_3 rfl (by decide) rfl ?_
  have L_1 : ∀ (nL_1 : Nat) (x n : Nat) (hx : x ≤ gwd g + 1 - gwd sn) (hn : n = fb_sm (fun x => q_ct (fun y => gsh sn g x y) (ghi g + 1 - ghi sn)) x), gwd g + 1 - gwd sn - x < nL_1 → q_W σ p l e rL_stands s m args below meth c Q 8 0 0 V G [(2, .int (nI n)), (3, .int (nI x)), (0, .int (nI sn)), (1, .int (nI g))] 4 [] := by
    intro nL_1
    induction nL_1 with
    | zero => intro x n hx hn h; exact absurd h (Nat.not_lt_zero _)
    | succ nL_1 ihL_1 =>
      intro x n hx hn hmL_1
      refine q_iload_n C dL_stands_4 rfl 1 rfl ?_
      refine q_iload_n C dL_stands_5 rfl 2 rfl ?_
      refine q_callSi C (As := [.int (nI sn)]) (rest := [.int (nI x)]) (kL_wide l σ V G (g := sn) (by omega)) 1 gL_stands_L_wide rfl rfl rfl (by decide +kernel) ⟨Nat.le_of_ble_eq_true rfl, Nat.le_of_ble_eq_true rfl⟩ dL_stands_6 rfl (Nat.le_of_ble_eq_true rfl) ⟨Nat.le_of_ble_eq_true rfl, Nat.le_of_ble_eq_true rfl⟩ (fun r_6 V_2 G_3 hq_6 => ?_)
      obtain ⟨rfl, rfl, rfl⟩ := hq_6
      refine q_iaddN C dL_stands_9  ?_
      refine q_iload_n C dL_stands_10 rfl 3 rfl ?_
      refine q_callSi C (As := [.int (nI g)]) (rest := [.int (nI (x + (gwd sn)))]) (kL_wide l σ V G (g := g) (by omega)) 1 gL_stands_L_wide rfl rfl rfl (by decide +kernel) ⟨Nat.le_of_ble_eq_true rfl, Nat.le_of_ble_eq_true rfl⟩ dL_stands_11 rfl (Nat.le_of_ble_eq_true rfl) ⟨Nat.le_of_ble_eq_true rfl, Nat.le_of_ble_eq_true rfl⟩ (fun r_11 V_4 G_5 hq_11 => ?_)
      obtain ⟨rfl, rfl, rfl⟩ := hq_11
      refine q_icmp_gtN C 132 dL_stands_14 (by decide) (by omega) (by omega) (fun c_14 => ?_) (fun c_14 => ?_)
      · skip
        refine q_iload_n C dL_stands_132 rfl 0 rfl ?_
        refine hR _ _ _ _ _ _ _ ?_ rfl (Nat.le_of_ble_eq_true rfl) (Nat.le_of_ble_eq_true rfl) dL_stands_133
        refine ⟨?_, rfl, rfl⟩
        rw [hn, gstd, show x = gwd g + 1 - gwd sn by omega]
      · skip
        refine q_iconst C (nI 0) dL_stands_17 (by decide) ?_
        refine q_istore C [(4, .int (nI 0)), (2, .int (nI n)), (3, .int (nI x)), (0, .int (nI sn)), (1, .int (nI g))] dL_stands_18 (by decide) rfl ?_
        have L_6 : ∀ (nL_6 : Nat) (y n2 : Nat) (hy : y ≤ ghi g + 1 - ghi sn) (hn2 : n2 = n + q_ct (fun y => gsh sn g x y) y), ghi g + 1 - ghi sn - y < nL_6 → q_W σ p l e rL_stands s m args below meth c Q 8 0 0 V G [(2, .int (nI n2)), (4, .int (nI y)), (0, .int (nI sn)), (1, .int (nI g)), (3, .int (nI x))] 20 [] := by
          intro nL_6
          induction nL_6 with
          | zero => intro y n2 hy hn2 h; exact absurd h (Nat.not_lt_zero _)
          | succ nL_6 ihL_6 =>
            intro y n2 hy hn2 hmL_6
            refine q_iload C dL_stands_20 1 rfl ?_
            refine q_iload_n C dL_stands_22 rfl 2 rfl ?_
            refine q_callSi C (As := [.int (nI sn)]) (rest := [.int (nI y)]) (kL_high l σ V G (g := sn) (by omega)) 1 gL_stands_L_high rfl rfl rfl (by decide +kernel) ⟨Nat.le_of_ble_eq_true rfl, Nat.le_of_ble_eq_true rfl⟩ dL_stands_23 rfl (Nat.le_of_ble_eq_true rfl) ⟨Nat.le_of_ble_eq_true rfl, Nat.le_of_ble_eq_true rfl⟩ (fun r_23 V_7 G_8 hq_23 => ?_)
            obtain ⟨rfl, rfl, rfl⟩ := hq_23
            refine q_iaddN C dL_stands_26  ?_
            refine q_iload_n C dL_stands_27 rfl 3 rfl ?_
            refine q_callSi C (As := [.int (nI g)]) (rest := [.int (nI (y + (ghi sn)))]) (kL_high l σ V G (g := g) (by omega)) 1 gL_stands_L_high rfl rfl rfl (by decide +kernel) ⟨Nat.le_of_ble_eq_true rfl, Nat.le_of_ble_eq_true rfl⟩ dL_stands_28 rfl (Nat.le_of_ble_eq_true rfl) ⟨Nat.le_of_ble_eq_true rfl, Nat.le_of_ble_eq_true rfl⟩ (fun r_28 V_9 G_10 hq_28 => ?_)
            obtain ⟨rfl, rfl, rfl⟩ := hq_28
            refine q_icmp_gtN C 126 dL_stands_31 (by decide) (by omega) (by omega) (fun c_31 => ?_) (fun c_31 => ?_)
            · skip
              refine q_iincN C [(3, .int (nI (x + 1))), (2, .int (nI n2)), (4, .int (nI y)), (0, .int (nI sn)), (1, .int (nI g))] dL_stands_126 4 rfl (by decide) rfl ?_
              refine q_goto C 4 dL_stands_129 (by decide) ?_
              refine q_sub (lv' := [(2, .int (nI n2)), (3, .int (nI (x + 1))), (0, .int (nI sn)), (1, .int (nI g))]) [1, 0, 3, 4] rfl ?_
              exact ihL_1 (x + 1) _ (by omega) (by rw [hn2, hn, fb_sm_succ, show y = ghi g + 1 - ghi sn by omega]) (by omega)
            · skip
              refine q_iconst C (nI 1) dL_stands_34 (by decide) ?_
              refine q_stk (st' := [.int (q_w01 True)]) (by rw [q_w01_y trivial] <;> rfl) ?_
              refine q_istore C [(5, .int (q_w01 True)), (2, .int (nI n2)), (4, .int (nI y)), (0, .int (nI sn)), (1, .int (nI g)), (3, .int (nI x))] dL_stands_35 (by decide) rfl ?_
              refine q_iconst C (nI 0) dL_stands_37 (by decide) ?_
              refine q_istore C [(6, .int (nI 0)), (5, .int (q_w01 True)), (2, .int (nI n2)), (4, .int (nI y)), (0, .int (nI sn)), (1, .int (nI g)), (3, .int (nI x))] dL_stands_38 (by decide) rfl ?_
              have L_11 : ∀ (nL_11 : Nat) (i : Nat) (P : Prop) (hi : i ≤ gwd sn) (hP : P ↔ ∀ a b, b < ghi sn → a < i → gat sn a b = gat g (x + a) (y + b)), gwd sn - i < nL_11 → q_W σ p l e rL_stands s m args below meth c Q 8 0 0 V G [(5, .int (q_w01 P)), (6, .int (nI i)), (0, .int (nI sn)), (1, .int (nI g)), (2, .int (nI n2)), (3, .int (nI x)), (4, .int (nI y))] 40 [] := by
                intro nL_11
                induction nL_11 with
                | zero => intro i P hi hP h; exact absurd h (Nat.not_lt_zero _)
                | succ nL_11 ihL_11 =>
                  intro i P hi hP hmL_11
                  refine q_iload C dL_stands_40 1 rfl ?_
                  refine q_iload_n C dL_stands_42 rfl 2 rfl ?_
                  refine q_callSi C (As := [.int (nI sn)]) (rest := [.int (nI i)]) (kL_wide l σ V G (g := sn) (by omega)) 1 gL_stands_L_wide rfl rfl rfl (by decide +kernel) ⟨Nat.le_of_ble_eq_true rfl, Nat.le_of_ble_eq_true rfl⟩ dL_stands_43 rfl (Nat.le_of_ble_eq_true rfl) ⟨Nat.le_of_ble_eq_true rfl, Nat.le_of_ble_eq_true rfl⟩ (fun r_43 V_12 G_13 hq_43 => ?_)
                  obtain ⟨rfl, rfl, rfl⟩ := hq_43
                  refine q_icmp_geN C 107 dL_stands_46 (by decide) (by omega) (by omega) (fun c_46 => ?_) (fun c_46 => ?_)
                  · skip
                    refine q_iload_n C dL_stands_107 rfl 4 rfl ?_
                    refine q_iload C dL_stands_108 0 rfl ?_
                    refine q_if_eqW C 117 dL_stands_110 (by decide) (fun c_110 => ?_) (fun c_110 => ?_)
                    · skip
                      refine q_iconst C (nI 0) dL_stands_117 (by decide) ?_
                      refine q_iaddN C dL_stands_118  ?_
                      refine q_istore_n C [(2, .int (nI (n2 + 0))), (5, .int (q_w01 P)), (6, .int (nI i)), (0, .int (nI sn)), (1, .int (nI g)), (3, .int (nI x)), (4, .int (nI y))] dL_stands_119 rfl (by decide) rfl ?_
                      refine q_iincN C [(4, .int (nI (y + 1))), (2, .int (nI (n2 + 0))), (5, .int (q_w01 P)), (6, .int (nI i)), (0, .int (nI sn)), (1, .int (nI g)), (3, .int (nI x))] dL_stands_120 6 rfl (by decide) rfl ?_
                      refine q_goto C 20 dL_stands_123 (by decide) ?_
                      refine q_sub (lv' := [(2, .int (nI (n2 + 0))), (4, .int (nI (y + 1))), (0, .int (nI sn)), (1, .int (nI g)), (3, .int (nI x))]) [1, 0, 4, 5, 6] rfl ?_
                      exact ihL_6 (y + 1) _ (by omega) (by first | (rw [q_ct_n (p := fun y => gsh sn g x y) (fun z => c_110 (hP.mpr (fun a b hb ha => z a b (by omega) hb)))]; omega) | (rw [q_ct_y (p := fun y => gsh sn g x y) (fun a b ha hb => hP.mp c_110 a b hb (by omega))]; omega)) (by omega)
                    · skip
                      refine q_iconst C (nI 1) dL_stands_113 (by decide) ?_
                      refine q_goto C 118 dL_stands_114 (by decide) ?_
                      refine q_iaddN C dL_stands_118  ?_
                      refine q_istore_n C [(2, .int (nI (n2 + 1))), (5, .int (q_w01 P)), (6, .int (nI i)), (0, .int (nI sn)), (1, .int (nI g)), (3, .int (nI x)), (4, .int (nI y))] dL_stands_119 rfl (by decide) rfl ?_
                      refine q_iincN C [(4, .int (nI (y + 1))), (2, .int (nI (n2 + 1))), (5, .int (q_w01 P)), (6, .int (nI i)), (0, .int (nI sn)), (1, .int (nI g)), (3, .int (nI x))] dL_stands_120 6 rfl (by decide) rfl ?_
                      refine q_goto C 20 dL_stands_123 (by decide) ?_
                      refine q_sub (lv' := [(2, .int (nI (n2 + 1))), (4, .int (nI (y + 1))), (0, .int (nI sn)), (1, .int (nI g)), (3, .int (nI x))]) [1, 0, 4, 5, 6] rfl ?_
                      exact ihL_6 (y + 1) _ (by omega) (by first | (rw [q_ct_n (p := fun y => gsh sn g x y) (fun z => c_110 (hP.mpr (fun a b hb ha => z a b (by omega) hb)))]; omega) | (rw [q_ct_y (p := fun y => gsh sn g x y) (fun a b ha hb => hP.mp c_110 a b hb (by omega))]; omega)) (by omega)
                  · skip
                    refine q_iconst C (nI 0) dL_stands_49 (by decide) ?_
                    refine q_istore C [(7, .int (nI 0)), (5, .int (q_w01 P)), (6, .int (nI i)), (0, .int (nI sn)), (1, .int (nI g)), (2, .int (nI n2)), (3, .int (nI x)), (4, .int (nI y))] dL_stands_50 (by decide) rfl ?_
                    have L_14 : ∀ (nL_14 : Nat) (j : Nat) (P2 : Prop) (hj : j ≤ ghi sn) (hP2 : P2 ↔ ((∀ a b, b < ghi sn → a < i → gat sn a b = gat g (x + a) (y + b)) ∧ ∀ b, b < j → gat sn i b = gat g (x + i) (y + b))), ghi sn - j < nL_14 → q_W σ p l e rL_stands s m args below meth c Q 8 0 0 V G [(5, .int (q_w01 P2)), (7, .int (nI j)), (0, .int (nI sn)), (1, .int (nI g)), (2, .int (nI n2)), (3, .int (nI x)), (4, .int (nI y)), (6, .int (nI i))] 52 [] := by
                      intro nL_14
                      induction nL_14 with
                      | zero => intro j P2 hj hP2 h; exact absurd h (Nat.not_lt_zero _)
                      | succ nL_14 ihL_14 =>
                        intro j P2 hj hP2 hmL_14
                        refine q_iload C dL_stands_52 1 rfl ?_
                        refine q_iload_n C dL_stands_54 rfl 2 rfl ?_
                        refine q_callSi C (As := [.int (nI sn)]) (rest := [.int (nI j)]) (kL_high l σ V G (g := sn) (by omega)) 1 gL_stands_L_high rfl rfl rfl (by decide +kernel) ⟨Nat.le_of_ble_eq_true rfl, Nat.le_of_ble_eq_true rfl⟩ dL_stands_55 rfl (Nat.le_of_ble_eq_true rfl) ⟨Nat.le_of_ble_eq_true rfl, Nat.le_of_ble_eq_true rfl⟩ (fun r_55 V_15 G_16 hq_55 => ?_)
                        obtain ⟨rfl, rfl, rfl⟩ := hq_55
                        refine q_icmp_geN C 101 dL_stands_58 (by decide) (by omega) (by omega) (fun c_58 => ?_) (fun c_58 => ?_)
                        · skip
                          refine q_iincN C [(6, .int (nI (i + 1))), (5, .int (q_w01 P2)), (7, .int (nI j)), (0, .int (nI sn)), (1, .int (nI g)), (2, .int (nI n2)), (3, .int (nI x)), (4, .int (nI y))] dL_stands_101 7 rfl (by decide) rfl ?_
                          refine q_goto C 40 dL_stands_104 (by decide) ?_
                          refine q_sub (lv' := [(5, .int (q_w01 P2)), (6, .int (nI (i + 1))), (0, .int (nI sn)), (1, .int (nI g)), (2, .int (nI n2)), (3, .int (nI x)), (4, .int (nI y))]) [1, 0, 3, 4, 5, 6, 7] rfl ?_
                          exact ihL_11 (i + 1) _ (by omega) (zst_row (show j = ghi sn by omega) hP2) (by omega)
                        · skip
                          have J_17 : ∀ (Q9 : Prop) (hQ9 : Q9 ↔ gat sn i j = gat g (x + i) (y + j)), q_W σ p l e rL_stands s m args below meth c Q 8 0 0 V G [(0, .int (nI sn)), (1, .int (nI g)), (2, .int (nI n2)), (3, .int (nI x)), (4, .int (nI y)), (5, .int (q_w01 P2)), (6, .int (nI i)), (7, .int (nI j))] 92 [.int (q_w01 Q9), .int (q_w01 P2)] := by
                            intro Q9 hQ9
                            refine q_iandW C dL_stands_92 ?_
                            refine q_istore C [(5, .int (q_w01 (P2 ∧ Q9))), (0, .int (nI sn)), (1, .int (nI g)), (2, .int (nI n2)), (3, .int (nI x)), (4, .int (nI y)), (6, .int (nI i)), (7, .int (nI j))] dL_stands_93 (by decide) rfl ?_
                            refine q_iincN C [(7, .int (nI (j + 1))), (5, .int (q_w01 (P2 ∧ Q9))), (0, .int (nI sn)), (1, .int (nI g)), (2, .int (nI n2)), (3, .int (nI x)), (4, .int (nI y)), (6, .int (nI i))] dL_stands_95 7 rfl (by decide) rfl ?_
                            refine q_goto C 52 dL_stands_98 (by decide) ?_
                            refine q_sub (lv' := [(5, .int (q_w01 (P2 ∧ Q9))), (7, .int (nI (j + 1))), (0, .int (nI sn)), (1, .int (nI g)), (2, .int (nI n2)), (3, .int (nI x)), (4, .int (nI y)), (6, .int (nI i))]) [1, 0, 2, 3, 4, 5, 6, 7] rfl ?_
                            exact ihL_14 (j + 1) _ (by omega) (zst_step hP2 hQ9) (by omega)
                          refine q_iload C dL_stands_61 0 rfl ?_
                          refine q_iload_n C dL_stands_63 rfl 2 rfl ?_
                          refine q_iload C dL_stands_64 7 rfl ?_
                          refine q_iload C dL_stands_66 1 rfl ?_
                          refine q_callSi C (As := [.int (nI sn), .int (nI i), .int (nI j)]) (rest := [.int (q_w01 P2)]) (kL_at l σ V G (g := sn) (x := i) (y := j) (by omega) (by omega) (by omega)) 3 gL_stands_L_at rfl rfl rfl (by decide +kernel) ⟨Nat.le_of_ble_eq_true rfl, Nat.le_of_ble_eq_true rfl⟩ dL_stands_68 rfl (Nat.le_of_ble_eq_true rfl) ⟨Nat.le_of_ble_eq_true rfl, Nat.le_of_ble_eq_true rfl⟩ (fun r_68 V_18 G_19 hq_68 => ?_)
                          obtain ⟨rfl, rfl, rfl⟩ := hq_68
                          refine q_iload_n C dL_stands_71 rfl 3 rfl ?_
                          refine q_iload_n C dL_stands_72 rfl 5 rfl ?_
                          refine q_iload C dL_stands_73 7 rfl ?_
                          refine q_iaddN C dL_stands_75  ?_
                          refine q_iload C dL_stands_76 6 rfl ?_
                          refine q_iload C dL_stands_78 1 rfl ?_
                          refine q_iaddN C dL_stands_80  ?_
                          refine q_callSi C (As := [.int (nI g), .int (nI (x + i)), .int (nI (y + j))]) (rest := [.int (nI (gat sn i j)), .int (q_w01 P2)]) (kL_at l σ V G (g := g) (x := x + i) (y := y + j) (by omega) (by omega) (by omega)) 3 gL_stands_L_at rfl rfl rfl (by decide +kernel) ⟨Nat.le_of_ble_eq_true rfl, Nat.le_of_ble_eq_true rfl⟩ dL_stands_81 rfl (Nat.le_of_ble_eq_true rfl) ⟨Nat.le_of_ble_eq_true rfl, Nat.le_of_ble_eq_true rfl⟩ (fun r_81 V_20 G_21 hq_81 => ?_)
                          obtain ⟨rfl, rfl, rfl⟩ := hq_81
                          have hl9 := gat_lt sn i j
                          have hl8 := gat_lt g (x + i) (y + j)
                          refine q_icmp_neN C 91 dL_stands_84 (by decide) (by omega) (by omega) (fun c_84 => ?_) (fun c_84 => ?_)
                          · skip
                            refine q_iconst C (nI 0) dL_stands_91 (by decide) ?_
                            refine q_sub (lv' := [(0, .int (nI sn)), (1, .int (nI g)), (2, .int (nI n2)), (3, .int (nI x)), (4, .int (nI y)), (5, .int (q_w01 P2)), (6, .int (nI i)), (7, .int (nI j))]) [2, 3, 4, 5, 6, 0, 7, 1] rfl ?_
                            refine q_stk (st' := [.int (q_w01 False), .int (q_w01 P2)]) (by rw [q_w01_n (fun z : False => z)] <;> rfl) ?_
                            exact J_17 _ ⟨fun z => z.elim, c_84⟩
                          · skip
                            refine q_iconst C (nI 1) dL_stands_87 (by decide) ?_
                            refine q_goto C 92 dL_stands_88 (by decide) ?_
                            refine q_sub (lv' := [(0, .int (nI sn)), (1, .int (nI g)), (2, .int (nI n2)), (3, .int (nI x)), (4, .int (nI y)), (5, .int (q_w01 P2)), (6, .int (nI i)), (7, .int (nI j))]) [2, 3, 4, 5, 6, 0, 7, 1] rfl ?_
                            refine q_stk (st' := [.int (q_w01 True), .int (q_w01 P2)]) (by rw [q_w01_y trivial] <;> rfl) ?_
                            exact J_17 _ ⟨fun _ => c_84, fun _ => trivial⟩
                    refine q_sub (lv' := [(5, .int (q_w01 P)), (7, .int (nI 0)), (0, .int (nI sn)), (1, .int (nI g)), (2, .int (nI n2)), (3, .int (nI x)), (4, .int (nI y)), (6, .int (nI i))]) [1, 0, 3, 4, 5, 6, 7, 2] rfl ?_
                    exact L_14 _ 0 P (Nat.zero_le _) (zst_0 hP) (Nat.lt_succ_self _)
              refine q_sub (lv' := [(5, .int (q_w01 True)), (6, .int (nI 0)), (0, .int (nI sn)), (1, .int (nI g)), (2, .int (nI n2)), (3, .int (nI x)), (4, .int (nI y))]) [1, 0, 4, 5, 2, 6, 3] rfl ?_
              exact L_11 _ 0 True (Nat.zero_le _) ⟨fun _ a b _ ha => absurd ha (Nat.not_lt_zero a), fun _ => trivial⟩ (Nat.lt_succ_self _)
        refine q_sub (lv' := [(2, .int (nI n)), (4, .int (nI 0)), (0, .int (nI sn)), (1, .int (nI g)), (3, .int (nI x))]) [1, 0, 3, 4, 2] rfl ?_
        exact L_6 _ 0 n (Nat.zero_le _) rfl (Nat.lt_succ_self _)
  refine q_sub (lv' := [(2, .int (nI 0)), (3, .int (nI 0)), (0, .int (nI sn)), (1, .int (nI g))]) [1, 0, 2, 3] rfl ?_
  exact L_1 _ 0 0 (Nat.zero_le _) rfl (Nat.lt_succ_self _)
