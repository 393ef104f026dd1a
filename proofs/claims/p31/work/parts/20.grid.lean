abbrev rX1_size : Room := { frames := 1, cells := 0, slots := 0, locals := 12 }
theorem iX1_size_X1 : ∀ w ∈ u_ws RX1 TX1 3, w ∈ wsX1_size := by decide +kernel
set_option maxHeartbeats 4000000 in
set_option maxRecDepth 100000 in
/-- Grid.size -/
theorem kX1_size (l : Launch) (σ : q_E) (V : q_V) (G : q_G) {i w h : Nat} (hi : i < 21) (hg : q_gok V i w h) : q_Mi l yX1_size wsX1_size rX1_size σ [.ref (σ.2.1 (27 + i))] V G (fun r V' G' => nI (w * h) = r ∧ V = V' ∧ G = G') 0 0 := by
  refine q_Mi_of (cc := cX1_size) (maxL := 1) (lv := [(0, .ref (σ.2.1 (27 + i)))]) (by decide +kernel) rfl (Nat.le_of_ble_eq_true rfl) rfl ?_
  intro p e s m args below meth c Q C hR
  have hwh := q_gwh hg
  obtain ⟨hgw, hgh, hw1, hw8, hh1, hh6⟩ := id hg
  refine q_aload_n C dX1_size_0 rfl 0 rfl ?_
  refine q_get C (k := 27 + i) (fi := 1) (.int (nI w)) (q_isG (by omega)).1 (q_enG (by omega)) rfl iX1_size_X1 (by decide) (by decide +kernel) rfl (by rw [← hg.1]; rfl) dX1_size_1 ?_
  refine q_aload_n C dX1_size_4 rfl 0 rfl ?_
  refine q_get C (k := 27 + i) (fi := 2) (.int (nI h)) (q_isG (by omega)).1 (q_enG (by omega)) rfl iX1_size_X1 (by decide) (by decide +kernel) rfl (by rw [← hg.2.1]; rfl) dX1_size_5 ?_
  refine q_imulN C dX1_size_8  ?_
  refine hR _ _ _ _ _ _ _ ?_ rfl (Nat.le_of_ble_eq_true rfl) (Nat.le_of_ble_eq_true rfl) dX1_size_9
  exact ⟨rfl, rfl, rfl⟩
abbrev rX1_hasCell : Room := { frames := 1, cells := 0, slots := 0, locals := 12 }
theorem iX1_hasCell_X1 : ∀ w ∈ u_ws RX1 TX1 3, w ∈ wsX1_hasCell := by decide +kernel
set_option maxHeartbeats 4000000 in
set_option maxRecDepth 100000 in
/-- Grid.hasCell -/
theorem kX1_hasCell (l : Launch) (σ : q_E) (V : q_V) (G : q_G) {i w h : Nat} (hi : i < 21) (hg : q_gok V i w h) (x y : Int32) : q_Mi l yX1_hasCell wsX1_hasCell rX1_hasCell σ [.ref (σ.2.1 (27 + i)), .int x, .int y] V G (fun r V' G' => q_is (q_ok w x ∧ q_ok h y) r ∧ V = V' ∧ G = G') 0 0 := by
  refine q_Mi_of (cc := cX1_hasCell) (maxL := 3) (lv := [(0, .ref (σ.2.1 (27 + i))), (1, .int x), (2, .int y)]) (by decide +kernel) rfl (Nat.le_of_ble_eq_true rfl) rfl ?_
  intro p e s m args below meth c Q C hR
  have hwh := q_gwh hg
  obtain ⟨hgw, hgh, hw1, hw8, hh1, hh6⟩ := id hg
  refine q_iload_n C dX1_hasCell_0 rfl 1 rfl ?_
  refine q_if_lt C 28 dX1_hasCell_1 (by decide) (fun c_1 => ?_) (fun c_1 => ?_)
  · skip
    refine q_iconst C (nI 0) dX1_hasCell_28 (by decide) ?_
    refine hR _ _ _ _ _ _ _ ?_ (by first | rfl | decide) (Nat.le_of_ble_eq_true rfl) (Nat.le_of_ble_eq_true rfl) dX1_hasCell_29
    first | exact ⟨q_is_n (fun z => q_ok_neg c_13 (by omega) z.2), rfl, rfl⟩ | exact ⟨q_is_n (fun z => q_ok_ge2 c_21 (by omega) z.2), rfl, rfl⟩ | exact ⟨q_is_n (fun z => q_ok_neg c_1 (by omega) z.1), rfl, rfl⟩ | exact ⟨q_is_n (fun z => q_ok_ge2 c_9 (by omega) z.1), rfl, rfl⟩
  · skip
    refine q_iload_n C dX1_hasCell_4 rfl 1 rfl ?_
    refine q_aload_n C dX1_hasCell_5 rfl 0 rfl ?_
    refine q_get C (k := 27 + i) (fi := 1) (.int (nI w)) (q_isG (by omega)).1 (q_enG (by omega)) rfl iX1_hasCell_X1 (by decide) (by decide +kernel) rfl (by rw [← hg.1]; rfl) dX1_hasCell_6 ?_
    refine q_icmp_ge C 28 dX1_hasCell_9 (by decide) (fun c_9 => ?_) (fun c_9 => ?_)
    · skip
      refine q_iconst C (nI 0) dX1_hasCell_28 (by decide) ?_
      refine hR _ _ _ _ _ _ _ ?_ (by first | rfl | decide) (Nat.le_of_ble_eq_true rfl) (Nat.le_of_ble_eq_true rfl) dX1_hasCell_29
      first | exact ⟨q_is_n (fun z => q_ok_neg c_13 (by omega) z.2), rfl, rfl⟩ | exact ⟨q_is_n (fun z => q_ok_ge2 c_21 (by omega) z.2), rfl, rfl⟩ | exact ⟨q_is_n (fun z => q_ok_neg c_1 (by omega) z.1), rfl, rfl⟩ | exact ⟨q_is_n (fun z => q_ok_ge2 c_9 (by omega) z.1), rfl, rfl⟩
    · skip
      refine q_iload_n C dX1_hasCell_12 rfl 2 rfl ?_
      refine q_if_lt C 28 dX1_hasCell_13 (by decide) (fun c_13 => ?_) (fun c_13 => ?_)
      · skip
        refine q_iconst C (nI 0) dX1_hasCell_28 (by decide) ?_
        refine hR _ _ _ _ _ _ _ ?_ (by first | rfl | decide) (Nat.le_of_ble_eq_true rfl) (Nat.le_of_ble_eq_true rfl) dX1_hasCell_29
        first | exact ⟨q_is_n (fun z => q_ok_neg c_13 (by omega) z.2), rfl, rfl⟩ | exact ⟨q_is_n (fun z => q_ok_ge2 c_21 (by omega) z.2), rfl, rfl⟩ | exact ⟨q_is_n (fun z => q_ok_neg c_1 (by omega) z.1), rfl, rfl⟩ | exact ⟨q_is_n (fun z => q_ok_ge2 c_9 (by omega) z.1), rfl, rfl⟩
      · skip
        refine q_iload_n C dX1_hasCell_16 rfl 2 rfl ?_
        refine q_aload_n C dX1_hasCell_17 rfl 0 rfl ?_
        refine q_get C (k := 27 + i) (fi := 2) (.int (nI h)) (q_isG (by omega)).1 (q_enG (by omega)) rfl iX1_hasCell_X1 (by decide) (by decide +kernel) rfl (by rw [← hg.2.1]; rfl) dX1_hasCell_18 ?_
        refine q_icmp_ge C 28 dX1_hasCell_21 (by decide) (fun c_21 => ?_) (fun c_21 => ?_)
        · skip
          refine q_iconst C (nI 0) dX1_hasCell_28 (by decide) ?_
          refine hR _ _ _ _ _ _ _ ?_ (by first | rfl | decide) (Nat.le_of_ble_eq_true rfl) (Nat.le_of_ble_eq_true rfl) dX1_hasCell_29
          first | exact ⟨q_is_n (fun z => q_ok_neg c_13 (by omega) z.2), rfl, rfl⟩ | exact ⟨q_is_n (fun z => q_ok_ge2 c_21 (by omega) z.2), rfl, rfl⟩ | exact ⟨q_is_n (fun z => q_ok_neg c_1 (by omega) z.1), rfl, rfl⟩ | exact ⟨q_is_n (fun z => q_ok_ge2 c_9 (by omega) z.1), rfl, rfl⟩
        · skip
          refine q_iconst C (nI 1) dX1_hasCell_24 (by decide) ?_
          refine q_goto C 29 dX1_hasCell_25 (by decide) ?_
          refine hR _ _ _ _ _ _ _ ?_ (by first | rfl | decide) (Nat.le_of_ble_eq_true rfl) (Nat.le_of_ble_eq_true rfl) dX1_hasCell_29
          exact ⟨q_is_y ⟨q_ok_of2 c_1 c_9 (by omega), q_ok_of2 c_13 c_21 (by omega)⟩, rfl, rfl⟩
abbrev rX1_colourAt : Room := { frames := 1, cells := 0, slots := 0, locals := 12 }
theorem iX1_colourAt_X1 : ∀ w ∈ u_ws RX1 TX1 3, w ∈ wsX1_colourAt := by decide +kernel
set_option maxHeartbeats 4000000 in
set_option maxRecDepth 100000 in
/-- Grid.colourAt -/
theorem kX1_colourAt (l : Launch) (σ : q_E) (V : q_V) (G : q_G) {i w h : Nat} (hi : i < 21) (hg : q_gok V i w h) {cn rn : Nat} (hc : cn < w) (hr : rn < h) : q_Mi l yX1_colourAt wsX1_colourAt rX1_colourAt σ [.ref (σ.2.1 (27 + i)), .int (nI cn), .int (nI rn)] V G (fun r V' G' => V (48 + i) (rn * w + cn) = r ∧ V = V' ∧ G = G') 0 0 := by
  refine q_Mi_of (cc := cX1_colourAt) (maxL := 3) (lv := [(0, .ref (σ.2.1 (27 + i))), (1, .int (nI cn)), (2, .int (nI rn))]) (by decide +kernel) rfl (Nat.le_of_ble_eq_true rfl) rfl ?_
  intro p e s m args below meth c Q C hR
  have hwh := q_gwh hg
  obtain ⟨hgw, hgh, hw1, hw8, hh1, hh6⟩ := id hg
  have hix := q_ix hr hc
  refine q_aload_n C dX1_colourAt_0 rfl 0 rfl ?_
  refine q_get C (k := 27 + i) (fi := 0) (.ref (σ.2.1 (48 + i))) (q_isG (by omega)).1 (q_enG (by omega)) rfl iX1_colourAt_X1 (by decide) (by decide +kernel) rfl rfl dX1_colourAt_1 ?_
  refine q_iload_n C dX1_colourAt_4 rfl 2 rfl ?_
  refine q_aload_n C dX1_colourAt_5 rfl 0 rfl ?_
  refine q_get C (k := 27 + i) (fi := 1) (.int (nI w)) (q_isG (by omega)).1 (q_enG (by omega)) rfl iX1_colourAt_X1 (by decide) (by decide +kernel) rfl (by rw [← hg.1]; rfl) dX1_colourAt_6 ?_
  refine q_imulN C dX1_colourAt_9  ?_
  refine q_iload_n C dX1_colourAt_10 rfl 1 rfl ?_
  refine q_iaddN C dX1_colourAt_11  ?_
  refine q_ialdN C (k := 48 + i) (q_isI_cell (by omega)) (by omega) (by decide) dX1_colourAt_12 ?_
  refine hR _ _ _ _ _ _ _ ?_ rfl (Nat.le_of_ble_eq_true rfl) (Nat.le_of_ble_eq_true rfl) dX1_colourAt_13
  exact ⟨rfl, rfl, rfl⟩
abbrev rX1_paint : Room := { frames := 1, cells := 0, slots := 0, locals := 12 }
theorem iX1_paint_X1 : ∀ w ∈ u_ws RX1 TX1 3, w ∈ wsX1_paint := by decide +kernel
set_option maxHeartbeats 4000000 in
set_option maxRecDepth 100000 in
/-- Grid.paint -/
theorem kX1_paint (l : Launch) (σ : q_E) (V : q_V) (G : q_G) {i w h : Nat} (hi : i < 21) (hg : q_gok V i w h) {cn rn : Nat} (hc : cn < w) (hr : rn < h) (x : Int32) : q_Mv l yX1_paint wsX1_paint rX1_paint σ [.ref (σ.2.1 (27 + i)), .int (nI cn), .int (nI rn), .int x] V G (fun V' G' => q_up V (48 + i) (rn * w + cn) x = V' ∧ G = G') 0 0 := by
  refine q_Mv_of (cc := cX1_paint) (maxL := 4) (lv := [(0, .ref (σ.2.1 (27 + i))), (1, .int (nI cn)), (2, .int (nI rn)), (3, .int x)]) (by decide +kernel) rfl (Nat.le_of_ble_eq_true rfl) rfl ?_
  intro p e s m args below meth c Q C hR
  have hwh := q_gwh hg
  obtain ⟨hgw, hgh, hw1, hw8, hh1, hh6⟩ := id hg
  have hix := q_ix hr hc
  refine q_aload_n C dX1_paint_0 rfl 0 rfl ?_
  refine q_get C (k := 27 + i) (fi := 0) (.ref (σ.2.1 (48 + i))) (q_isG (by omega)).1 (q_enG (by omega)) rfl iX1_paint_X1 (by decide) (by decide +kernel) rfl rfl dX1_paint_1 ?_
  refine q_iload_n C dX1_paint_4 rfl 2 rfl ?_
  refine q_aload_n C dX1_paint_5 rfl 0 rfl ?_
  refine q_get C (k := 27 + i) (fi := 1) (.int (nI w)) (q_isG (by omega)).1 (q_enG (by omega)) rfl iX1_paint_X1 (by decide) (by decide +kernel) rfl (by rw [← hg.1]; rfl) dX1_paint_6 ?_
  refine q_imulN C dX1_paint_9  ?_
  refine q_iload_n C dX1_paint_10 rfl 1 rfl ?_
  refine q_iaddN C dX1_paint_11  ?_
  refine q_iload_n C dX1_paint_12 rfl 3 rfl ?_
  refine q_iastN C (k := 48 + i) (q_isI_cell (by omega)) (by omega) (by decide) dX1_paint_13 ?_
  refine hR _ _ _ _ _ _ ?_ (Nat.le_of_ble_eq_true rfl) (Nat.le_of_ble_eq_true rfl) dX1_paint_14
  exact ⟨rfl, rfl⟩
abbrev rJ7_fill_53178 : Room := { frames := 1, cells := 0, slots := 0, locals := 12 }
set_option maxHeartbeats 4000000 in
set_option maxRecDepth 100000 in
/-- Arrays.fill(int[], int) -/
theorem kJ7_fill_53178 (l : Launch) (σ : q_E) (V : q_V) (G : q_G) {k n : Nat} (hk : q_isI k n) (hn : n < 2 ^ 31) (x : Int32) : q_Mv l yJ7_fill_53178 wsJ7_fill_53178 rJ7_fill_53178 σ [.ref (σ.2.1 k), .int x] V G (fun V' G' => q_fill V k x n = V' ∧ G = G') 0 0 := by
  refine q_Mv_of (cc := cJ7_fill_53178) (maxL := 4) (lv := [(0, .ref (σ.2.1 k)), (1, .int x)]) (by decide +kernel) rfl (Nat.le_of_ble_eq_true rfl) rfl ?_
  intro p e s m args below meth c Q C hR
  refine q_iconst C (nI 0) dJ7_fill_53178_0 (by decide) ?_
  refine q_istore_n C [(2, .int (nI 0)), (0, .ref (σ.2.1 k)), (1, .int x)] dJ7_fill_53178_1 rfl (by decide) rfl ?_
  refine q_aload_n C dJ7_fill_53178_2 rfl 1 rfl ?_
  refine q_alenI C (k := k) hk dJ7_fill_53178_3 ?_
  refine q_istore_n C [(3, .int (nI n)), (2, .int (nI 0)), (0, .ref (σ.2.1 k)), (1, .int x)] dJ7_fill_53178_4 rfl (by decide) rfl ?_
  have L_1 : ∀ (nL_1 : Nat) (j : Nat) (hj : j ≤ n), n - j < nL_1 → q_W σ p l e rJ7_fill_53178 s m args below meth c Q 4 0 0 (q_fill V k x j) G [(2, .int (nI j)), (0, .ref (σ.2.1 k)), (1, .int x), (3, .int (nI n))] 5 [] := by
    intro nL_1
    induction nL_1 with
    | zero => intro j hj h; exact absurd h (Nat.not_lt_zero _)
    | succ nL_1 ihL_1 =>
      intro j hj hmL_1
      refine q_iload_n C dJ7_fill_53178_5 rfl 0 rfl ?_
      refine q_iload_n C dJ7_fill_53178_6 rfl 3 rfl ?_
      refine q_icmp_geN C 20 dJ7_fill_53178_7 (by decide) (by omega) (by omega) (fun c_7 => ?_) (fun c_7 => ?_)
      · skip
        obtain rfl : j = n := by omega
        refine hR _ _ _ _ _ _ ?_ (Nat.le_of_ble_eq_true rfl) (Nat.le_of_ble_eq_true rfl) dJ7_fill_53178_20
        exact ⟨rfl, rfl⟩
      · skip
        refine q_aload_n C dJ7_fill_53178_10 rfl 1 rfl ?_
        refine q_iload_n C dJ7_fill_53178_11 rfl 0 rfl ?_
        refine q_iload_n C dJ7_fill_53178_12 rfl 2 rfl ?_
        refine q_iastN C (k := k) hk (by omega) hn dJ7_fill_53178_13 ?_
        refine q_VG (V' := q_fill V k x (j + 1)) (G' := G) (by rw [q_fill_succ]) rfl ?_
        refine q_iincN C [(2, .int (nI (j + 1))), (0, .ref (σ.2.1 k)), (1, .int x), (3, .int (nI n))] dJ7_fill_53178_14 0 rfl (by decide) rfl ?_
        refine q_goto C 5 dJ7_fill_53178_17 (by decide) ?_
        refine q_sub (lv' := [(2, .int (nI (j + 1))), (0, .ref (σ.2.1 k)), (1, .int x), (3, .int (nI n))]) [0, 1, 2, 3] rfl ?_
        exact ihL_1 (j + 1) (by omega) (by omega)
  refine q_sub (lv' := [(2, .int (nI 0)), (0, .ref (σ.2.1 k)), (1, .int x), (3, .int (nI n))]) [1, 2, 3, 0] rfl ?_
  refine q_VG (V' := q_fill V k x 0) (G' := G) ((q_fill_0 V k x).symm) rfl ?_
  exact L_1 _ 0 (Nat.zero_le n) (Nat.lt_succ_self _)
abbrev rX1_begin : Room := { frames := 2, cells := 0, slots := 0, locals := 53 }
theorem iX1_begin_X1 : ∀ w ∈ u_ws RX1 TX1 3, w ∈ wsX1_begin := by decide +kernel
set_option maxHeartbeats 4000000 in
set_option maxRecDepth 100000 in
/-- Grid.begin -/
theorem kX1_begin (l : Launch) (σ : q_E) (V : q_V) (G : q_G) {i : Nat} (hi : i < 21) (cn rn : Int32) : q_Mv l yX1_begin wsX1_begin rX1_begin σ [.ref (σ.2.1 (27 + i)), .int cn, .int rn] V G (fun V' G' => q_fill (q_up (q_up V (27 + i) 1 cn) (27 + i) 2 rn) (48 + i) 0 48 = V' ∧ G = G') 0 0 := by
  refine q_Mv_of (cc := cX1_begin) (maxL := 3) (lv := [(0, .ref (σ.2.1 (27 + i))), (1, .int cn), (2, .int rn)]) (by decide +kernel) rfl (Nat.le_of_ble_eq_true rfl) rfl ?_
  intro p e s m args below meth c Q C hR
  refine q_aload_n C dX1_begin_0 rfl 0 rfl ?_
  refine q_iload_n C dX1_begin_1 rfl 1 rfl ?_
  refine q_put C (k := 27 + i) (fi := 1) tyX1 tyX1_ok nmX1 (q_isG (by omega)).1 (q_enG (by omega)) rfl iX1_begin_X1 (by decide) (by decide +kernel) rfl rfl (by decide +kernel) (Nat.le_of_ble_eq_true rfl) (q_enG (by omega) |>.trans (by simp [q_up])) dX1_begin_2 ?_
  refine q_aload_n C dX1_begin_5 rfl 0 rfl ?_
  refine q_iload_n C dX1_begin_6 rfl 2 rfl ?_
  refine q_put C (k := 27 + i) (fi := 2) tyX1 tyX1_ok nmX1 (q_isG (by omega)).1 (q_enG (by omega)) rfl iX1_begin_X1 (by decide) (by decide +kernel) rfl rfl (by decide +kernel) (Nat.le_of_ble_eq_true rfl) (q_enG (by omega) |>.trans (by simp [q_up])) dX1_begin_7 ?_
  refine q_aload_n C dX1_begin_10 rfl 0 rfl ?_
  refine q_get C (k := 27 + i) (fi := 0) (.ref (σ.2.1 (48 + i))) (q_isG (by omega)).1 (q_enG (by omega)) rfl iX1_begin_X1 (by decide) (by decide +kernel) rfl rfl dX1_begin_11 ?_
  refine q_iconst C (nI 0) dX1_begin_14 (by decide) ?_
  refine q_callSv C (As := [.ref (σ.2.1 (48 + i)), .int (nI 0)]) (rest := []) (kJ7_fill_53178 l σ (q_up (q_up V (27 + i) 1 (cn)) (27 + i) 2 (rn)) G (q_isI_cell hi) (by decide) (nI 0)) 2 gX1_begin_J7_fill_53178 rfl rfl rfl (by decide +kernel) ⟨Nat.le_of_ble_eq_true rfl, Nat.le_of_ble_eq_true rfl⟩ dX1_begin_15 rfl (Nat.le_of_ble_eq_true rfl) ⟨Nat.le_of_ble_eq_true rfl, Nat.le_of_ble_eq_true rfl⟩ (fun V_1 G_2 hq_15 => ?_)
  obtain ⟨rfl, rfl⟩ := hq_15
  refine hR _ _ _ _ _ _ ?_ (Nat.le_of_ble_eq_true rfl) (Nat.le_of_ble_eq_true rfl) dX1_begin_18
  exact ⟨rfl, rfl⟩
abbrev rX1_copyFrom : Room := { frames := 1, cells := 0, slots := 0, locals := 200 }
theorem iX1_copyFrom_X1 : ∀ w ∈ u_ws RX1 TX1 3, w ∈ wsX1_copyFrom := by decide +kernel
set_option maxHeartbeats 4000000 in
set_option maxRecDepth 100000 in
/-- Grid.copyFrom -/
theorem kX1_copyFrom (l : Launch) (σ : q_E) (V : q_V) (G : q_G) {i j : Nat} (hi : i < 21) (hj : j < 21) (hij : i ≠ j) : q_Mv l yX1_copyFrom wsX1_copyFrom rX1_copyFrom σ [.ref (σ.2.1 (27 + i)), .ref (σ.2.1 (27 + j))] V G (fun V' G' => q_cpy (q_up (q_up V (27 + i) 1 (V (27 + j) 1)) (27 + i) 2 (V (27 + j) 2)) (48 + j) (48 + i) 48 = V' ∧ G = G') 0 0 := by
  refine q_Mv_of (cc := cX1_copyFrom) (maxL := 2) (lv := [(0, .ref (σ.2.1 (27 + i))), (1, .ref (σ.2.1 (27 + j)))]) (by decide +kernel) rfl (Nat.le_of_ble_eq_true rfl) rfl ?_
  intro p e s m args below meth c Q C hR
  refine q_aload_n C dX1_copyFrom_0 rfl 0 rfl ?_
  refine q_aload_n C dX1_copyFrom_1 rfl 1 rfl ?_
  refine q_get C (k := 27 + j) (fi := 1) (.int (V (27 + j) 1)) (q_isG (by omega)).1 (q_enG (by omega)) rfl iX1_copyFrom_X1 (by decide) (by decide +kernel) rfl rfl dX1_copyFrom_2 ?_
  refine q_put C (k := 27 + i) (fi := 1) tyX1 tyX1_ok nmX1 (q_isG (by omega)).1 (q_enG (by omega)) rfl iX1_copyFrom_X1 (by decide) (by decide +kernel) rfl rfl (by decide +kernel) (Nat.le_of_ble_eq_true rfl) (q_enG (by omega) |>.trans (by simp [q_up])) dX1_copyFrom_5 ?_
  refine q_aload_n C dX1_copyFrom_8 rfl 0 rfl ?_
  refine q_aload_n C dX1_copyFrom_9 rfl 1 rfl ?_
  refine q_get C (k := 27 + j) (fi := 2) (.int ((q_up V (27 + i) 1 ((V (27 + j) 1))) (27 + j) 2)) (q_isG (by omega)).1 (q_enG (by omega)) rfl iX1_copyFrom_X1 (by decide) (by decide +kernel) rfl rfl dX1_copyFrom_10 ?_
  refine q_put C (k := 27 + i) (fi := 2) tyX1 tyX1_ok nmX1 (q_isG (by omega)).1 (q_enG (by omega)) rfl iX1_copyFrom_X1 (by decide) (by decide +kernel) rfl rfl (by decide +kernel) (Nat.le_of_ble_eq_true rfl) (q_enG (by omega) |>.trans (by simp [q_up])) dX1_copyFrom_13 ?_
  refine q_aload_n C dX1_copyFrom_16 rfl 1 rfl ?_
  refine q_get C (k := 27 + j) (fi := 0) (.ref (σ.2.1 (48 + j))) (q_isG (by omega)).1 (q_enG (by omega)) rfl iX1_copyFrom_X1 (by decide) (by decide +kernel) rfl rfl dX1_copyFrom_17 ?_
  refine q_iconst C (nI 0) dX1_copyFrom_20 (by decide) ?_
  refine q_aload_n C dX1_copyFrom_21 rfl 0 rfl ?_
  refine q_get C (k := 27 + i) (fi := 0) (.ref (σ.2.1 (48 + i))) (q_isG (by omega)).1 (q_enG (by omega)) rfl iX1_copyFrom_X1 (by decide) (by decide +kernel) rfl rfl dX1_copyFrom_22 ?_
  refine q_iconst C (nI 0) dX1_copyFrom_25 (by decide) ?_
  refine q_aload_n C dX1_copyFrom_26 rfl 0 rfl ?_
  refine q_get C (k := 27 + i) (fi := 0) (.ref (σ.2.1 (48 + i))) (q_isG (by omega)).1 (q_enG (by omega)) rfl iX1_copyFrom_X1 (by decide) (by decide +kernel) rfl rfl dX1_copyFrom_27 ?_
  refine q_alenI C (k := 48 + i) (q_isI_cell (by omega)) dX1_copyFrom_30 ?_
  refine q_copyI C (k1 := 48 + j) (k2 := 48 + i) (n1 := 48) (n2 := 48) (n := 48) (q_isI_cell (by omega)) (q_isI_cell (by omega)) (by omega) (by omega) (by omega) (by decide +kernel) (by decide +kernel) (by decide +kernel) (by decide +kernel) (Nat.le_of_ble_eq_true rfl) (Nat.le_of_ble_eq_true rfl) dX1_copyFrom_31 ?_
  refine hR _ _ _ _ _ _ ?_ (Nat.le_of_ble_eq_true rfl) (Nat.le_of_ble_eq_true rfl) dX1_copyFrom_34
  have e : q_up V (27 + i) 1 (V (27 + j) 1) (27 + j) 2 = V (27 + j) 2 := q_up_ne V _ (by omega)
  rw [e]
  exact ⟨rfl, rfl⟩
abbrev rX1_cellsOf : Room := { frames := 2, cells := 0, slots := 0, locals := 32 }
theorem iX1_cellsOf_X1 : ∀ w ∈ u_ws RX1 TX1 3, w ∈ wsX1_cellsOf := by decide +kernel
set_option maxHeartbeats 4000000 in
set_option maxRecDepth 100000 in
/-- Grid.cellsOf -/
theorem kX1_cellsOf (l : Launch) (σ : q_E) (V : q_V) (G : q_G) {i w h : Nat} (hi : i < 21) (hg : q_gok V i w h) (x : Int32) : q_Mi l yX1_cellsOf wsX1_cellsOf rX1_cellsOf σ [.ref (σ.2.1 (27 + i)), .int x] V G (fun r V' G' => nI (q_ct (fun k => V (48 + i) k = x) (w * h)) = r ∧ V = V' ∧ G = G') 0 0 := by
  refine q_Mi_of (cc := cX1_cellsOf) (maxL := 4) (lv := [(0, .ref (σ.2.1 (27 + i))), (1, .int x)]) (by decide +kernel) rfl (Nat.le_of_ble_eq_true rfl) rfl ?_
  intro p e s m args below meth c Q C hR
  have hwh := q_gwh hg
  obtain ⟨hgw, hgh, hw1, hw8, hh1, hh6⟩ := id hg
  refine q_iconst C (nI 0) dX1_cellsOf_0 (by decide) ?_
  refine q_istore_n C [(2, .int (nI 0)), (0, .ref (σ.2.1 (27 + i))), (1, .int x)] dX1_cellsOf_1 rfl (by decide) rfl ?_
  refine q_iconst C (nI 0) dX1_cellsOf_2 (by decide) ?_
  refine q_istore_n C [(3, .int (nI 0)), (2, .int (nI 0)), (0, .ref (σ.2.1 (27 + i))), (1, .int x)] dX1_cellsOf_3 rfl (by decide) rfl ?_
  have L_1 : ∀ (nL_1 : Nat) (j cnt : Nat) (hj : j ≤ w * h) (hcnt : cnt = q_ct (fun k => V (48 + i) k = x) j), w * h - j < nL_1 → q_W σ p l e rX1_cellsOf s m args below meth c Q 4 0 0 V G [(2, .int (nI cnt)), (3, .int (nI j)), (0, .ref (σ.2.1 (27 + i))), (1, .int x)] 4 [] := by
    intro nL_1
    induction nL_1 with
    | zero => intro j cnt hj hcnt h; exact absurd h (Nat.not_lt_zero _)
    | succ nL_1 ihL_1 =>
      intro j cnt hj hcnt hmL_1
      refine q_iload_n C dX1_cellsOf_4 rfl 1 rfl ?_
      refine q_aload_n C dX1_cellsOf_5 rfl 2 rfl ?_
      refine q_callVi C (As := []) (rest := [.int (nI j)]) (k := 27 + i) (q_isG (by omega)).1 (q_enG (by omega)) rfl rfl (kX1_size l σ V G hi hg) 0 gX1_cellsOf_X1_size rfl rfl rfl (by decide +kernel) ⟨Nat.le_of_ble_eq_true rfl, Nat.le_of_ble_eq_true rfl⟩ dX1_cellsOf_6 rfl (Nat.le_of_ble_eq_true rfl) ⟨Nat.le_of_ble_eq_true rfl, Nat.le_of_ble_eq_true rfl⟩ (fun r_6 V_2 G_3 hq_6 => ?_)
      obtain ⟨rfl, rfl, rfl⟩ := hq_6
      refine q_icmp_geN C 31 dX1_cellsOf_9 (by decide) (by omega) (by omega) (fun c_9 => ?_) (fun c_9 => ?_)
      · skip
        refine q_iload_n C dX1_cellsOf_31 rfl 0 rfl ?_
        refine hR _ _ _ _ _ _ _ ?_ rfl (Nat.le_of_ble_eq_true rfl) (Nat.le_of_ble_eq_true rfl) dX1_cellsOf_32
        obtain rfl : j = w * h := by omega
        exact ⟨by rw [hcnt], rfl, rfl⟩
      · skip
        refine q_aload_n C dX1_cellsOf_12 rfl 2 rfl ?_
        refine q_get C (k := 27 + i) (fi := 0) (.ref (σ.2.1 (48 + i))) (q_isG (by omega)).1 (q_enG (by omega)) rfl iX1_cellsOf_X1 (by decide) (by decide +kernel) rfl rfl dX1_cellsOf_13 ?_
        refine q_iload_n C dX1_cellsOf_16 rfl 1 rfl ?_
        refine q_ialdN C (k := 48 + i) (q_isI_cell (by omega)) (by omega) (by decide) dX1_cellsOf_17 ?_
        refine q_iload_n C dX1_cellsOf_18 rfl 3 rfl ?_
        refine q_icmp_ne C 25 dX1_cellsOf_19 (by decide) (fun c_19 => ?_) (fun c_19 => ?_)
        · skip
          refine q_iincN C [(3, .int (nI (j + 1))), (2, .int (nI cnt)), (0, .ref (σ.2.1 (27 + i))), (1, .int x)] dX1_cellsOf_25 1 rfl (by decide) rfl ?_
          refine q_goto C 4 dX1_cellsOf_28 (by decide) ?_
          refine q_sub (lv' := [(2, .int (nI cnt)), (3, .int (nI (j + 1))), (0, .ref (σ.2.1 (27 + i))), (1, .int x)]) [1, 0, 2, 3] rfl ?_
          exact ihL_1 (j + 1) _ (by omega) (by first | exact hcnt.trans (q_ct_n c_19).symm | (rw [hcnt]; exact (q_ct_y c_19).symm)) (by omega)
        · skip
          refine q_iincN C [(2, .int (nI (cnt + 1))), (3, .int (nI j)), (0, .ref (σ.2.1 (27 + i))), (1, .int x)] dX1_cellsOf_22 0 rfl (by decide) rfl ?_
          refine q_iincN C [(3, .int (nI (j + 1))), (2, .int (nI (cnt + 1))), (0, .ref (σ.2.1 (27 + i))), (1, .int x)] dX1_cellsOf_25 1 rfl (by decide) rfl ?_
          refine q_goto C 4 dX1_cellsOf_28 (by decide) ?_
          refine q_sub (lv' := [(2, .int (nI (cnt + 1))), (3, .int (nI (j + 1))), (0, .ref (σ.2.1 (27 + i))), (1, .int x)]) [1, 0, 2, 3] rfl ?_
          exact ihL_1 (j + 1) _ (by omega) (by first | exact hcnt.trans (q_ct_n c_19).symm | (rw [hcnt]; exact (q_ct_y c_19).symm)) (by omega)
  refine q_sub (lv' := [(2, .int (nI 0)), (3, .int (nI 0)), (0, .ref (σ.2.1 (27 + i))), (1, .int x)]) [1, 0, 2, 3] rfl ?_
  exact L_1 _ 0 0 (Nat.zero_le _) rfl (Nat.lt_succ_self _)
abbrev rX1_colourInImage : Room := { frames := 2, cells := 0, slots := 0, locals := 34 }
theorem iX1_colourInImage_X1 : ∀ w ∈ u_ws RX1 TX1 3, w ∈ wsX1_colourInImage := by decide +kernel
set_option maxHeartbeats 4000000 in
set_option maxRecDepth 100000 in
/-- Grid.colourInImage -/
theorem kX1_colourInImage (l : Launch) (σ : q_E) (V : q_V) (G : q_G) {i w h : Nat} (hi : i < 21) (hg : q_gok V i w h) {k cn rn : Nat} (hk : k < 8) (hc : cn < q_ow k w h) (hr : rn < q_oh k w h) : q_Mi l yX1_colourInImage wsX1_colourInImage rX1_colourInImage σ [.ref (σ.2.1 (27 + i)), .int (nI k), .int (nI cn), .int (nI rn)] V G (fun r V' G' => V (48 + i) ((q_src k w h cn rn).2 * w + (q_src k w h cn rn).1) = r ∧ V = V' ∧ G = G') 0 0 := by
  refine q_Mi_of (cc := cX1_colourInImage) (maxL := 6) (lv := [(0, .ref (σ.2.1 (27 + i))), (1, .int (nI k)), (2, .int (nI cn)), (3, .int (nI rn))]) (by decide +kernel) rfl (Nat.le_of_ble_eq_true rfl) rfl ?_
  intro p e s m args below meth c Q C hR
  have hwh := q_gwh hg
  obtain ⟨hgw, hgh, hw1, hw8, hh1, hh6⟩ := id hg
  refine q_iload_n C dX1_colourInImage_0 rfl 2 rfl ?_
  refine q_istore C [(4, .int (nI cn)), (0, .ref (σ.2.1 (27 + i))), (1, .int (nI k)), (2, .int (nI cn)), (3, .int (nI rn))] dX1_colourInImage_1 (by decide) rfl ?_
  refine q_iload_n C dX1_colourInImage_3 rfl 4 rfl ?_
  refine q_istore C [(5, .int (nI rn)), (4, .int (nI cn)), (0, .ref (σ.2.1 (27 + i))), (1, .int (nI k)), (2, .int (nI cn)), (3, .int (nI rn))] dX1_colourInImage_4 (by decide) rfl ?_
  refine q_iload_n C dX1_colourInImage_6 rfl 3 rfl ?_
  refine q_iconst C (nI 3) dX1_colourInImage_7 (by decide) ?_
  refine q_iand C dX1_colourInImage_8 ?_
  refine q_stk (st' := [.int (nI (k % 4))]) (by exact congrArg (fun z => [Value.int z]) (q_and3 hk)) ?_
  have hm : k % 4 = 0 ∨ k % 4 = 1 ∨ k % 4 = 2 ∨ k % 4 = 3 := by omega
  rcases hm with e4 | e4 | e4 | e4
  · skip
    have hcb : cn < w := by have h9 := hc; rw [q_ow, if_neg (by omega)] at h9; exact h9
    have hrb : rn < h := by have h9 := hr; rw [q_oh, if_neg (by omega)] at h9; exact h9
    refine q_stk (st' := [.int (nI 0)]) (by rw [e4]) ?_
    refine q_tableOut C 91 dX1_colourInImage_9 (by decide) (by decide) ?_
    refine q_iload_n C dX1_colourInImage_91 rfl 3 rfl ?_
    refine q_iconst C (nI 4) dX1_colourInImage_92 (by decide) ?_
    refine q_iand C dX1_colourInImage_93 ?_
    refine q_stk (st' := [.int (nI (if 4 ≤ k then 4 else 0))]) (by exact congrArg (fun z => [Value.int z]) (q_and4 hk)) ?_
    refine q_if_eqN C 108 dX1_colourInImage_94 (by decide) (by split <;> omega) (fun c_94 => ?_) (fun c_94 => ?_)
    · skip
      have h4 : ¬ 4 ≤ k := fun z => by rw [if_pos z] at c_94; exact absurd c_94 (by decide)
      refine q_aload_n C dX1_colourInImage_108 rfl 2 rfl ?_
      refine q_iload C dX1_colourInImage_109 1 rfl ?_
      refine q_iload C dX1_colourInImage_111 0 rfl ?_
      refine q_callVi C (As := [.int (nI cn), .int (nI rn)]) (rest := []) (k := 27 + i) (q_isG (by omega)).1 (q_enG (by omega)) rfl rfl (kX1_colourAt l σ V G hi hg (cn := cn) (rn := rn) (by omega) (by omega)) 2 gX1_colourInImage_X1_colourAt rfl rfl rfl (by decide +kernel) ⟨Nat.le_of_ble_eq_true rfl, Nat.le_of_ble_eq_true rfl⟩ dX1_colourInImage_113 rfl (Nat.le_of_ble_eq_true rfl) ⟨Nat.le_of_ble_eq_true rfl, Nat.le_of_ble_eq_true rfl⟩ (fun r_113 V_1 G_2 hq_113 => ?_)
      obtain ⟨rfl, rfl, rfl⟩ := hq_113
      refine hR _ _ _ _ _ _ _ ?_ rfl (Nat.le_of_ble_eq_true rfl) (Nat.le_of_ble_eq_true rfl) dX1_colourInImage_116
      refine ⟨?_, rfl, rfl⟩
      simp [q_src, e4, h4]
    · skip
      have h4 : 4 ≤ k := Decidable.byContradiction fun z => c_94 (by rw [if_neg z])
      refine q_aload_n C dX1_colourInImage_97 rfl 2 rfl ?_
      refine q_get C (k := 27 + i) (fi := 1) (.int (nI w)) (q_isG (by omega)).1 (q_enG (by omega)) rfl iX1_colourInImage_X1 (by decide) (by decide +kernel) rfl (by rw [← hg.1]; rfl) dX1_colourInImage_98 ?_
      refine q_iconst C (nI 1) dX1_colourInImage_101 (by decide) ?_
      refine q_isubN C dX1_colourInImage_102 (by omega) ?_
      refine q_iload C dX1_colourInImage_103 1 rfl ?_
      refine q_isubN C dX1_colourInImage_105 (by omega) ?_
      refine q_istore C [(4, .int (nI ((w - 1) - cn))), (5, .int (nI rn)), (0, .ref (σ.2.1 (27 + i))), (1, .int (nI k)), (2, .int (nI cn)), (3, .int (nI rn))] dX1_colourInImage_106 (by decide) rfl ?_
      refine q_aload_n C dX1_colourInImage_108 rfl 2 rfl ?_
      refine q_iload C dX1_colourInImage_109 0 rfl ?_
      refine q_iload C dX1_colourInImage_111 1 rfl ?_
      refine q_callVi C (As := [.int (nI ((w - 1) - cn)), .int (nI rn)]) (rest := []) (k := 27 + i) (q_isG (by omega)).1 (q_enG (by omega)) rfl rfl (kX1_colourAt l σ V G hi hg (cn := (w - 1) - cn) (rn := rn) (by omega) (by omega)) 2 gX1_colourInImage_X1_colourAt rfl rfl rfl (by decide +kernel) ⟨Nat.le_of_ble_eq_true rfl, Nat.le_of_ble_eq_true rfl⟩ dX1_colourInImage_113 rfl (Nat.le_of_ble_eq_true rfl) ⟨Nat.le_of_ble_eq_true rfl, Nat.le_of_ble_eq_true rfl⟩ (fun r_113 V_3 G_4 hq_113 => ?_)
      obtain ⟨rfl, rfl, rfl⟩ := hq_113
      refine hR _ _ _ _ _ _ _ ?_ rfl (Nat.le_of_ble_eq_true rfl) (Nat.le_of_ble_eq_true rfl) dX1_colourInImage_116
      refine ⟨?_, rfl, rfl⟩
      simp [q_src, e4, h4]
  · skip
    have hcb : cn < h := by have h9 := hc; rw [q_ow, if_pos (by omega)] at h9; exact h9
    have hrb : rn < w := by have h9 := hr; rw [q_oh, if_pos (by omega)] at h9; exact h9
    refine q_stk (st' := [.int (nI 1)]) (by rw [e4]) ?_
    refine q_tableIn C (off := 27) 36 dX1_colourInImage_9 (by decide) (by decide) (by decide) (by decide) ?_
    refine q_iload_n C dX1_colourInImage_36 rfl 5 rfl ?_
    refine q_istore C [(4, .int (nI rn)), (5, .int (nI rn)), (0, .ref (σ.2.1 (27 + i))), (1, .int (nI k)), (2, .int (nI cn)), (3, .int (nI rn))] dX1_colourInImage_37 (by decide) rfl ?_
    refine q_aload_n C dX1_colourInImage_39 rfl 2 rfl ?_
    refine q_get C (k := 27 + i) (fi := 2) (.int (nI h)) (q_isG (by omega)).1 (q_enG (by omega)) rfl iX1_colourInImage_X1 (by decide) (by decide +kernel) rfl (by rw [← hg.2.1]; rfl) dX1_colourInImage_40 ?_
    refine q_iconst C (nI 1) dX1_colourInImage_43 (by decide) ?_
    refine q_isubN C dX1_colourInImage_44 (by omega) ?_
    refine q_iload_n C dX1_colourInImage_45 rfl 4 rfl ?_
    refine q_isubN C dX1_colourInImage_46 (by omega) ?_
    refine q_istore C [(5, .int (nI ((h - 1) - cn))), (4, .int (nI rn)), (0, .ref (σ.2.1 (27 + i))), (1, .int (nI k)), (2, .int (nI cn)), (3, .int (nI rn))] dX1_colourInImage_47 (by decide) rfl ?_
    refine q_goto C 91 dX1_colourInImage_49 (by decide) ?_
    refine q_iload_n C dX1_colourInImage_91 rfl 3 rfl ?_
    refine q_iconst C (nI 4) dX1_colourInImage_92 (by decide) ?_
    refine q_iand C dX1_colourInImage_93 ?_
    refine q_stk (st' := [.int (nI (if 4 ≤ k then 4 else 0))]) (by exact congrArg (fun z => [Value.int z]) (q_and4 hk)) ?_
    refine q_if_eqN C 108 dX1_colourInImage_94 (by decide) (by split <;> omega) (fun c_94 => ?_) (fun c_94 => ?_)
    · skip
      have h4 : ¬ 4 ≤ k := fun z => by rw [if_pos z] at c_94; exact absurd c_94 (by decide)
      refine q_aload_n C dX1_colourInImage_108 rfl 2 rfl ?_
      refine q_iload C dX1_colourInImage_109 1 rfl ?_
      refine q_iload C dX1_colourInImage_111 0 rfl ?_
      refine q_callVi C (As := [.int (nI rn), .int (nI ((h - 1) - cn))]) (rest := []) (k := 27 + i) (q_isG (by omega)).1 (q_enG (by omega)) rfl rfl (kX1_colourAt l σ V G hi hg (cn := rn) (rn := (h - 1) - cn) (by omega) (by omega)) 2 gX1_colourInImage_X1_colourAt rfl rfl rfl (by decide +kernel) ⟨Nat.le_of_ble_eq_true rfl, Nat.le_of_ble_eq_true rfl⟩ dX1_colourInImage_113 rfl (Nat.le_of_ble_eq_true rfl) ⟨Nat.le_of_ble_eq_true rfl, Nat.le_of_ble_eq_true rfl⟩ (fun r_113 V_5 G_6 hq_113 => ?_)
      obtain ⟨rfl, rfl, rfl⟩ := hq_113
      refine hR _ _ _ _ _ _ _ ?_ rfl (Nat.le_of_ble_eq_true rfl) (Nat.le_of_ble_eq_true rfl) dX1_colourInImage_116
      refine ⟨?_, rfl, rfl⟩
      simp [q_src, e4, h4]
    · skip
      have h4 : 4 ≤ k := Decidable.byContradiction fun z => c_94 (by rw [if_neg z])
      refine q_aload_n C dX1_colourInImage_97 rfl 2 rfl ?_
      refine q_get C (k := 27 + i) (fi := 1) (.int (nI w)) (q_isG (by omega)).1 (q_enG (by omega)) rfl iX1_colourInImage_X1 (by decide) (by decide +kernel) rfl (by rw [← hg.1]; rfl) dX1_colourInImage_98 ?_
      refine q_iconst C (nI 1) dX1_colourInImage_101 (by decide) ?_
      refine q_isubN C dX1_colourInImage_102 (by omega) ?_
      refine q_iload C dX1_colourInImage_103 1 rfl ?_
      refine q_isubN C dX1_colourInImage_105 (by omega) ?_
      refine q_istore C [(4, .int (nI ((w - 1) - rn))), (5, .int (nI ((h - 1) - cn))), (0, .ref (σ.2.1 (27 + i))), (1, .int (nI k)), (2, .int (nI cn)), (3, .int (nI rn))] dX1_colourInImage_106 (by decide) rfl ?_
      refine q_aload_n C dX1_colourInImage_108 rfl 2 rfl ?_
      refine q_iload C dX1_colourInImage_109 0 rfl ?_
      refine q_iload C dX1_colourInImage_111 1 rfl ?_
      refine q_callVi C (As := [.int (nI ((w - 1) - rn)), .int (nI ((h - 1) - cn))]) (rest := []) (k := 27 + i) (q_isG (by omega)).1 (q_enG (by omega)) rfl rfl (kX1_colourAt l σ V G hi hg (cn := (w - 1) - rn) (rn := (h - 1) - cn) (by omega) (by omega)) 2 gX1_colourInImage_X1_colourAt rfl rfl rfl (by decide +kernel) ⟨Nat.le_of_ble_eq_true rfl, Nat.le_of_ble_eq_true rfl⟩ dX1_colourInImage_113 rfl (Nat.le_of_ble_eq_true rfl) ⟨Nat.le_of_ble_eq_true rfl, Nat.le_of_ble_eq_true rfl⟩ (fun r_113 V_7 G_8 hq_113 => ?_)
      obtain ⟨rfl, rfl, rfl⟩ := hq_113
      refine hR _ _ _ _ _ _ _ ?_ rfl (Nat.le_of_ble_eq_true rfl) (Nat.le_of_ble_eq_true rfl) dX1_colourInImage_116
      refine ⟨?_, rfl, rfl⟩
      simp [q_src, e4, h4]
  · skip
    have hcb : cn < w := by have h9 := hc; rw [q_ow, if_neg (by omega)] at h9; exact h9
    have hrb : rn < h := by have h9 := hr; rw [q_oh, if_neg (by omega)] at h9; exact h9
    refine q_stk (st' := [.int (nI 2)]) (by rw [e4]) ?_
    refine q_tableIn C (off := 43) 52 dX1_colourInImage_9 (by decide) (by decide) (by decide) (by decide) ?_
    refine q_aload_n C dX1_colourInImage_52 rfl 2 rfl ?_
    refine q_get C (k := 27 + i) (fi := 1) (.int (nI w)) (q_isG (by omega)).1 (q_enG (by omega)) rfl iX1_colourInImage_X1 (by decide) (by decide +kernel) rfl (by rw [← hg.1]; rfl) dX1_colourInImage_53 ?_
    refine q_iconst C (nI 1) dX1_colourInImage_56 (by decide) ?_
    refine q_isubN C dX1_colourInImage_57 (by omega) ?_
    refine q_iload_n C dX1_colourInImage_58 rfl 4 rfl ?_
    refine q_isubN C dX1_colourInImage_59 (by omega) ?_
    refine q_istore C [(4, .int (nI ((w - 1) - cn))), (5, .int (nI rn)), (0, .ref (σ.2.1 (27 + i))), (1, .int (nI k)), (2, .int (nI cn)), (3, .int (nI rn))] dX1_colourInImage_60 (by decide) rfl ?_
    refine q_aload_n C dX1_colourInImage_62 rfl 2 rfl ?_
    refine q_get C (k := 27 + i) (fi := 2) (.int (nI h)) (q_isG (by omega)).1 (q_enG (by omega)) rfl iX1_colourInImage_X1 (by decide) (by decide +kernel) rfl (by rw [← hg.2.1]; rfl) dX1_colourInImage_63 ?_
    refine q_iconst C (nI 1) dX1_colourInImage_66 (by decide) ?_
    refine q_isubN C dX1_colourInImage_67 (by omega) ?_
    refine q_iload_n C dX1_colourInImage_68 rfl 5 rfl ?_
    refine q_isubN C dX1_colourInImage_69 (by omega) ?_
    refine q_istore C [(5, .int (nI ((h - 1) - rn))), (4, .int (nI ((w - 1) - cn))), (0, .ref (σ.2.1 (27 + i))), (1, .int (nI k)), (2, .int (nI cn)), (3, .int (nI rn))] dX1_colourInImage_70 (by decide) rfl ?_
    refine q_goto C 91 dX1_colourInImage_72 (by decide) ?_
    refine q_iload_n C dX1_colourInImage_91 rfl 3 rfl ?_
    refine q_iconst C (nI 4) dX1_colourInImage_92 (by decide) ?_
    refine q_iand C dX1_colourInImage_93 ?_
    refine q_stk (st' := [.int (nI (if 4 ≤ k then 4 else 0))]) (by exact congrArg (fun z => [Value.int z]) (q_and4 hk)) ?_
    refine q_if_eqN C 108 dX1_colourInImage_94 (by decide) (by split <;> omega) (fun c_94 => ?_) (fun c_94 => ?_)
    · skip
      have h4 : ¬ 4 ≤ k := fun z => by rw [if_pos z] at c_94; exact absurd c_94 (by decide)
      refine q_aload_n C dX1_colourInImage_108 rfl 2 rfl ?_
      refine q_iload C dX1_colourInImage_109 1 rfl ?_
      refine q_iload C dX1_colourInImage_111 0 rfl ?_
      refine q_callVi C (As := [.int (nI ((w - 1) - cn)), .int (nI ((h - 1) - rn))]) (rest := []) (k := 27 + i) (q_isG (by omega)).1 (q_enG (by omega)) rfl rfl (kX1_colourAt l σ V G hi hg (cn := (w - 1) - cn) (rn := (h - 1) - rn) (by omega) (by omega)) 2 gX1_colourInImage_X1_colourAt rfl rfl rfl (by decide +kernel) ⟨Nat.le_of_ble_eq_true rfl, Nat.le_of_ble_eq_true rfl⟩ dX1_colourInImage_113 rfl (Nat.le_of_ble_eq_true rfl) ⟨Nat.le_of_ble_eq_true rfl, Nat.le_of_ble_eq_true rfl⟩ (fun r_113 V_9 G_10 hq_113 => ?_)
      obtain ⟨rfl, rfl, rfl⟩ := hq_113
      refine hR _ _ _ _ _ _ _ ?_ rfl (Nat.le_of_ble_eq_true rfl) (Nat.le_of_ble_eq_true rfl) dX1_colourInImage_116
      refine ⟨?_, rfl, rfl⟩
      simp [q_src, e4, h4]
    · skip
      have h4 : 4 ≤ k := Decidable.byContradiction fun z => c_94 (by rw [if_neg z])
      refine q_aload_n C dX1_colourInImage_97 rfl 2 rfl ?_
      refine q_get C (k := 27 + i) (fi := 1) (.int (nI w)) (q_isG (by omega)).1 (q_enG (by omega)) rfl iX1_colourInImage_X1 (by decide) (by decide +kernel) rfl (by rw [← hg.1]; rfl) dX1_colourInImage_98 ?_
      refine q_iconst C (nI 1) dX1_colourInImage_101 (by decide) ?_
      refine q_isubN C dX1_colourInImage_102 (by omega) ?_
      refine q_iload C dX1_colourInImage_103 1 rfl ?_
      refine q_isubN C dX1_colourInImage_105 (by omega) ?_
      refine q_istore C [(4, .int (nI ((w - 1) - ((w - 1) - cn)))), (5, .int (nI ((h - 1) - rn))), (0, .ref (σ.2.1 (27 + i))), (1, .int (nI k)), (2, .int (nI cn)), (3, .int (nI rn))] dX1_colourInImage_106 (by decide) rfl ?_
      refine q_aload_n C dX1_colourInImage_108 rfl 2 rfl ?_
      refine q_iload C dX1_colourInImage_109 0 rfl ?_
      refine q_iload C dX1_colourInImage_111 1 rfl ?_
      refine q_callVi C (As := [.int (nI ((w - 1) - ((w - 1) - cn))), .int (nI ((h - 1) - rn))]) (rest := []) (k := 27 + i) (q_isG (by omega)).1 (q_enG (by omega)) rfl rfl (kX1_colourAt l σ V G hi hg (cn := (w - 1) - ((w - 1) - cn)) (rn := (h - 1) - rn) (by omega) (by omega)) 2 gX1_colourInImage_X1_colourAt rfl rfl rfl (by decide +kernel) ⟨Nat.le_of_ble_eq_true rfl, Nat.le_of_ble_eq_true rfl⟩ dX1_colourInImage_113 rfl (Nat.le_of_ble_eq_true rfl) ⟨Nat.le_of_ble_eq_true rfl, Nat.le_of_ble_eq_true rfl⟩ (fun r_113 V_11 G_12 hq_113 => ?_)
      obtain ⟨rfl, rfl, rfl⟩ := hq_113
      refine hR _ _ _ _ _ _ _ ?_ rfl (Nat.le_of_ble_eq_true rfl) (Nat.le_of_ble_eq_true rfl) dX1_colourInImage_116
      refine ⟨?_, rfl, rfl⟩
      simp [q_src, e4, h4]
  · skip
    have hcb : cn < h := by have h9 := hc; rw [q_ow, if_pos (by omega)] at h9; exact h9
    have hrb : rn < w := by have h9 := hr; rw [q_oh, if_pos (by omega)] at h9; exact h9
    refine q_stk (st' := [.int (nI 3)]) (by rw [e4]) ?_
    refine q_tableIn C (off := 66) 75 dX1_colourInImage_9 (by decide) (by decide) (by decide) (by decide) ?_
    refine q_aload_n C dX1_colourInImage_75 rfl 2 rfl ?_
    refine q_get C (k := 27 + i) (fi := 1) (.int (nI w)) (q_isG (by omega)).1 (q_enG (by omega)) rfl iX1_colourInImage_X1 (by decide) (by decide +kernel) rfl (by rw [← hg.1]; rfl) dX1_colourInImage_76 ?_
    refine q_iconst C (nI 1) dX1_colourInImage_79 (by decide) ?_
    refine q_isubN C dX1_colourInImage_80 (by omega) ?_
    refine q_iload_n C dX1_colourInImage_81 rfl 5 rfl ?_
    refine q_isubN C dX1_colourInImage_82 (by omega) ?_
    refine q_istore C [(4, .int (nI ((w - 1) - rn))), (5, .int (nI rn)), (0, .ref (σ.2.1 (27 + i))), (1, .int (nI k)), (2, .int (nI cn)), (3, .int (nI rn))] dX1_colourInImage_83 (by decide) rfl ?_
    refine q_iload_n C dX1_colourInImage_85 rfl 4 rfl ?_
    refine q_istore C [(5, .int (nI cn)), (4, .int (nI ((w - 1) - rn))), (0, .ref (σ.2.1 (27 + i))), (1, .int (nI k)), (2, .int (nI cn)), (3, .int (nI rn))] dX1_colourInImage_86 (by decide) rfl ?_
    refine q_goto C 91 dX1_colourInImage_88 (by decide) ?_
    refine q_iload_n C dX1_colourInImage_91 rfl 3 rfl ?_
    refine q_iconst C (nI 4) dX1_colourInImage_92 (by decide) ?_
    refine q_iand C dX1_colourInImage_93 ?_
    refine q_stk (st' := [.int (nI (if 4 ≤ k then 4 else 0))]) (by exact congrArg (fun z => [Value.int z]) (q_and4 hk)) ?_
    refine q_if_eqN C 108 dX1_colourInImage_94 (by decide) (by split <;> omega) (fun c_94 => ?_) (fun c_94 => ?_)
    · skip
      have h4 : ¬ 4 ≤ k := fun z => by rw [if_pos z] at c_94; exact absurd c_94 (by decide)
      refine q_aload_n C dX1_colourInImage_108 rfl 2 rfl ?_
      refine q_iload C dX1_colourInImage_109 1 rfl ?_
      refine q_iload C dX1_colourInImage_111 0 rfl ?_
      refine q_callVi C (As := [.int (nI ((w - 1) - rn)), .int (nI cn)]) (rest := []) (k := 27 + i) (q_isG (by omega)).1 (q_enG (by omega)) rfl rfl (kX1_colourAt l σ V G hi hg (cn := (w - 1) - rn) (rn := cn) (by omega) (by omega)) 2 gX1_colourInImage_X1_colourAt rfl rfl rfl (by decide +kernel) ⟨Nat.le_of_ble_eq_true rfl, Nat.le_of_ble_eq_true rfl⟩ dX1_colourInImage_113 rfl (Nat.le_of_ble_eq_true rfl) ⟨Nat.le_of_ble_eq_true rfl, Nat.le_of_ble_eq_true rfl⟩ (fun r_113 V_13 G_14 hq_113 => ?_)
      obtain ⟨rfl, rfl, rfl⟩ := hq_113
      refine hR _ _ _ _ _ _ _ ?_ rfl (Nat.le_of_ble_eq_true rfl) (Nat.le_of_ble_eq_true rfl) dX1_colourInImage_116
      refine ⟨?_, rfl, rfl⟩
      simp [q_src, e4, h4]
    · skip
      have h4 : 4 ≤ k := Decidable.byContradiction fun z => c_94 (by rw [if_neg z])
      refine q_aload_n C dX1_colourInImage_97 rfl 2 rfl ?_
      refine q_get C (k := 27 + i) (fi := 1) (.int (nI w)) (q_isG (by omega)).1 (q_enG (by omega)) rfl iX1_colourInImage_X1 (by decide) (by decide +kernel) rfl (by rw [← hg.1]; rfl) dX1_colourInImage_98 ?_
      refine q_iconst C (nI 1) dX1_colourInImage_101 (by decide) ?_
      refine q_isubN C dX1_colourInImage_102 (by omega) ?_
      refine q_iload C dX1_colourInImage_103 1 rfl ?_
      refine q_isubN C dX1_colourInImage_105 (by omega) ?_
      refine q_istore C [(4, .int (nI ((w - 1) - ((w - 1) - rn)))), (5, .int (nI cn)), (0, .ref (σ.2.1 (27 + i))), (1, .int (nI k)), (2, .int (nI cn)), (3, .int (nI rn))] dX1_colourInImage_106 (by decide) rfl ?_
      refine q_aload_n C dX1_colourInImage_108 rfl 2 rfl ?_
      refine q_iload C dX1_colourInImage_109 0 rfl ?_
      refine q_iload C dX1_colourInImage_111 1 rfl ?_
      refine q_callVi C (As := [.int (nI ((w - 1) - ((w - 1) - rn))), .int (nI cn)]) (rest := []) (k := 27 + i) (q_isG (by omega)).1 (q_enG (by omega)) rfl rfl (kX1_colourAt l σ V G hi hg (cn := (w - 1) - ((w - 1) - rn)) (rn := cn) (by omega) (by omega)) 2 gX1_colourInImage_X1_colourAt rfl rfl rfl (by decide +kernel) ⟨Nat.le_of_ble_eq_true rfl, Nat.le_of_ble_eq_true rfl⟩ dX1_colourInImage_113 rfl (Nat.le_of_ble_eq_true rfl) ⟨Nat.le_of_ble_eq_true rfl, Nat.le_of_ble_eq_true rfl⟩ (fun r_113 V_15 G_16 hq_113 => ?_)
      obtain ⟨rfl, rfl, rfl⟩ := hq_113
      refine hR _ _ _ _ _ _ _ ?_ rfl (Nat.le_of_ble_eq_true rfl) (Nat.le_of_ble_eq_true rfl) dX1_colourInImage_116
      refine ⟨?_, rfl, rfl⟩
      simp [q_src, e4, h4]
abbrev rX1_hasImage : Room := { frames := 3, cells := 0, slots := 0, locals := 59 }
theorem iX1_hasImage_X1 : ∀ w ∈ u_ws RX1 TX1 3, w ∈ wsX1_hasImage := by decide +kernel
set_option maxHeartbeats 4000000 in
set_option maxRecDepth 100000 in
/-- Grid.hasImage -/
theorem kX1_hasImage (l : Launch) (σ : q_E) (V : q_V) (G : q_G) {i w h : Nat} (hi : i < 21) (hg : q_gok V i w h) {j w2 h2 : Nat} (hj : j < 21) (hg2 : q_gok V j w2 h2) {k : Nat} (hk : k < 8) : q_Mi l yX1_hasImage wsX1_hasImage rX1_hasImage σ [.ref (σ.2.1 (27 + i)), .int (nI k), .ref (σ.2.1 (27 + j))] V G (fun r V' G' => q_is (q_alike V i w h k j w2 h2) r ∧ V = V' ∧ G = G') 0 0 := by
  refine q_Mi_of (cc := cX1_hasImage) (maxL := 6) (lv := [(0, .ref (σ.2.1 (27 + i))), (1, .int (nI k)), (2, .ref (σ.2.1 (27 + j)))]) (by decide +kernel) rfl (Nat.le_of_ble_eq_true rfl) rfl ?_
  intro p e s m args below meth c Q C hR
  have hwh := q_gwh hg
  obtain ⟨hgw, hgh, hw1, hw8, hh1, hh6⟩ := id hg
  have hwh2 := q_gwh hg2
  obtain ⟨hgw2, hgh2, hw21, hw28, hh21, hh26⟩ := id hg2
  have J_1 : ∀ (z : Int32) (e1 : w2 = q_ow k w h) (e2 : h2 = q_oh k w h), q_W σ p l e rX1_hasImage s m args below meth c Q 6 0 0 V G [(3, .int z), (0, .ref (σ.2.1 (27 + i))), (1, .int (nI k)), (2, .ref (σ.2.1 (27 + j)))] 58 [] := by
    intro z e1 e2
    refine q_iconst C (nI 0) dX1_hasImage_58 (by decide) ?_
    refine q_istore C [(4, .int (nI 0)), (3, .int z), (0, .ref (σ.2.1 (27 + i))), (1, .int (nI k)), (2, .ref (σ.2.1 (27 + j)))] dX1_hasImage_59 (by decide) rfl ?_
    have L_2 : ∀ (nL_2 : Nat) (rr : Nat) (hrr : rr ≤ h2) (hall : ∀ r, r < rr → ∀ c, c < w2 → V (48 + i) ((q_src k w h c r).2 * w + (q_src k w h c r).1) = V (48 + j) (r * w2 + c)), h2 - rr < nL_2 → q_W σ p l e rX1_hasImage s m args below meth c Q 6 0 0 V G [(4, .int (nI rr)), (0, .ref (σ.2.1 (27 + i))), (1, .int (nI k)), (2, .ref (σ.2.1 (27 + j))), (3, .int z)] 61 [] := by
      intro nL_2
      induction nL_2 with
      | zero => intro rr hrr hall h; exact absurd h (Nat.not_lt_zero _)
      | succ nL_2 ihL_2 =>
        intro rr hrr hall hmL_2
        refine q_iload C dX1_hasImage_61 0 rfl ?_
        refine q_aload_n C dX1_hasImage_63 rfl 3 rfl ?_
        refine q_get C (k := 27 + j) (fi := 2) (.int (nI h2)) (q_isG (by omega)).1 (q_enG (by omega)) rfl iX1_hasImage_X1 (by decide) (by decide +kernel) rfl (by rw [← hg2.2.1]; rfl) dX1_hasImage_64 ?_
        refine q_icmp_geN C 116 dX1_hasImage_67 (by decide) (by omega) (by omega) (fun c_67 => ?_) (fun c_67 => ?_)
        · skip
          refine q_iconst C (nI 1) dX1_hasImage_116 (by decide) ?_
          refine hR _ _ _ _ _ _ _ ?_ (by first | rfl | decide) (Nat.le_of_ble_eq_true rfl) (Nat.le_of_ble_eq_true rfl) dX1_hasImage_117
          refine ⟨?_, rfl, rfl⟩
          first | exact q_is_y ⟨e1, e2, fun r c hr hc => hall r (by omega) c hc⟩ | exact q_is_n (fun z => c_99 (z.2.2 rr cc (by omega) (by omega))) | exact q_is_n (fun z => c_53 z.2.1) | exact q_is_n (fun z => c_31 z.1)
        · skip
          refine q_iconst C (nI 0) dX1_hasImage_70 (by decide) ?_
          refine q_istore C [(5, .int (nI 0)), (4, .int (nI rr)), (0, .ref (σ.2.1 (27 + i))), (1, .int (nI k)), (2, .ref (σ.2.1 (27 + j))), (3, .int z)] dX1_hasImage_71 (by decide) rfl ?_
          have L_3 : ∀ (nL_3 : Nat) (cc : Nat) (hcc : cc ≤ w2) (hin : ∀ c, c < cc → V (48 + i) ((q_src k w h c rr).2 * w + (q_src k w h c rr).1) = V (48 + j) (rr * w2 + c)), w2 - cc < nL_3 → q_W σ p l e rX1_hasImage s m args below meth c Q 6 0 0 V G [(5, .int (nI cc)), (0, .ref (σ.2.1 (27 + i))), (1, .int (nI k)), (2, .ref (σ.2.1 (27 + j))), (3, .int z), (4, .int (nI rr))] 73 [] := by
            intro nL_3
            induction nL_3 with
            | zero => intro cc hcc hin h; exact absurd h (Nat.not_lt_zero _)
            | succ nL_3 ihL_3 =>
              intro cc hcc hin hmL_3
              refine q_iload C dX1_hasImage_73 0 rfl ?_
              refine q_aload_n C dX1_hasImage_75 rfl 3 rfl ?_
              refine q_get C (k := 27 + j) (fi := 1) (.int (nI w2)) (q_isG (by omega)).1 (q_enG (by omega)) rfl iX1_hasImage_X1 (by decide) (by decide +kernel) rfl (by rw [← hg2.1]; rfl) dX1_hasImage_76 ?_
              refine q_icmp_geN C 110 dX1_hasImage_79 (by decide) (by omega) (by omega) (fun c_79 => ?_) (fun c_79 => ?_)
              · skip
                refine q_iincN C [(4, .int (nI (rr + 1))), (5, .int (nI cc)), (0, .ref (σ.2.1 (27 + i))), (1, .int (nI k)), (2, .ref (σ.2.1 (27 + j))), (3, .int z)] dX1_hasImage_110 5 rfl (by decide) rfl ?_
                refine q_goto C 61 dX1_hasImage_113 (by decide) ?_
                refine q_sub (lv' := [(4, .int (nI (rr + 1))), (0, .ref (σ.2.1 (27 + i))), (1, .int (nI k)), (2, .ref (σ.2.1 (27 + j))), (3, .int z)]) [0, 2, 3, 4, 5] rfl ?_
                exact ihL_2 (rr + 1) (by omega) (lt_s hall (fun c hc => hin c (by omega))) (by omega)
              · skip
                refine q_aload_n C dX1_hasImage_82 rfl 1 rfl ?_
                refine q_iload_n C dX1_hasImage_83 rfl 2 rfl ?_
                refine q_iload C dX1_hasImage_84 0 rfl ?_
                refine q_iload C dX1_hasImage_86 5 rfl ?_
                refine q_callVi C (As := [.int (nI k), .int (nI cc), .int (nI rr)]) (rest := []) (k := 27 + i) (q_isG (by omega)).1 (q_enG (by omega)) rfl rfl (kX1_colourInImage l σ V G hi hg (k := k) (cn := cc) (rn := rr) hk (by omega) (by omega)) 3 gX1_hasImage_X1_colourInImage rfl rfl rfl (by decide +kernel) ⟨Nat.le_of_ble_eq_true rfl, Nat.le_of_ble_eq_true rfl⟩ dX1_hasImage_88 rfl (Nat.le_of_ble_eq_true rfl) ⟨Nat.le_of_ble_eq_true rfl, Nat.le_of_ble_eq_true rfl⟩ (fun r_88 V_4 G_5 hq_88 => ?_)
                obtain ⟨rfl, rfl, rfl⟩ := hq_88
                refine q_aload_n C dX1_hasImage_91 rfl 3 rfl ?_
                refine q_iload C dX1_hasImage_92 0 rfl ?_
                refine q_iload C dX1_hasImage_94 5 rfl ?_
                refine q_callVi C (As := [.int (nI cc), .int (nI rr)]) (rest := [.int (V (48 + i) ((q_src k w h cc rr).2 * w + (q_src k w h cc rr).1))]) (k := 27 + j) (q_isG (by omega)).1 (q_enG (by omega)) rfl rfl (kX1_colourAt l σ V G hj hg2 (cn := cc) (rn := rr) (by omega) (by omega)) 2 gX1_hasImage_X1_colourAt rfl rfl rfl (by decide +kernel) ⟨Nat.le_of_ble_eq_true rfl, Nat.le_of_ble_eq_true rfl⟩ dX1_hasImage_96 rfl (Nat.le_of_ble_eq_true rfl) ⟨Nat.le_of_ble_eq_true rfl, Nat.le_of_ble_eq_true rfl⟩ (fun r_96 V_6 G_7 hq_96 => ?_)
                obtain ⟨rfl, rfl, rfl⟩ := hq_96
                refine q_icmp_eq C 104 dX1_hasImage_99 (by decide) (fun c_99 => ?_) (fun c_99 => ?_)
                · skip
                  refine q_iincN C [(5, .int (nI (cc + 1))), (0, .ref (σ.2.1 (27 + i))), (1, .int (nI k)), (2, .ref (σ.2.1 (27 + j))), (3, .int z), (4, .int (nI rr))] dX1_hasImage_104 0 rfl (by decide) rfl ?_
                  refine q_goto C 73 dX1_hasImage_107 (by decide) ?_
                  refine q_sub (lv' := [(5, .int (nI (cc + 1))), (0, .ref (σ.2.1 (27 + i))), (1, .int (nI k)), (2, .ref (σ.2.1 (27 + j))), (3, .int z), (4, .int (nI rr))]) [0, 1, 2, 3, 4, 5] rfl ?_
                  exact ihL_3 (cc + 1) (by omega) (lt_s hin c_99) (by omega)
                · skip
                  refine q_iconst C (nI 0) dX1_hasImage_102 (by decide) ?_
                  refine hR _ _ _ _ _ _ _ ?_ (by first | rfl | decide) (Nat.le_of_ble_eq_true rfl) (Nat.le_of_ble_eq_true rfl) dX1_hasImage_103
                  refine ⟨?_, rfl, rfl⟩
                  first | exact q_is_y ⟨e1, e2, fun r c hr hc => hall r (by omega) c hc⟩ | exact q_is_n (fun z => c_99 (z.2.2 rr cc (by omega) (by omega))) | exact q_is_n (fun z => c_53 z.2.1) | exact q_is_n (fun z => c_31 z.1)
          refine q_sub (lv' := [(5, .int (nI 0)), (0, .ref (σ.2.1 (27 + i))), (1, .int (nI k)), (2, .ref (σ.2.1 (27 + j))), (3, .int z), (4, .int (nI rr))]) [0, 2, 3, 4, 5, 1] rfl ?_
          exact L_3 _ 0 (Nat.zero_le _) lt_0 (Nat.lt_succ_self _)
    refine q_sub (lv' := [(4, .int (nI 0)), (0, .ref (σ.2.1 (27 + i))), (1, .int (nI k)), (2, .ref (σ.2.1 (27 + j))), (3, .int z)]) [0, 2, 3, 4, 1] rfl ?_
    exact L_2 _ 0 (Nat.zero_le _) lt_0 (Nat.lt_succ_self _)
  refine q_iload_n C dX1_hasImage_0 rfl 1 rfl ?_
  refine q_iconst C (nI 1) dX1_hasImage_1 (by decide) ?_
  refine q_iand C dX1_hasImage_2 ?_
  refine q_stk (st' := [.int (nI (k % 2))]) (by exact congrArg (fun z => [Value.int z]) (q_and1 hk)) ?_
  refine q_if_eqN C 10 dX1_hasImage_3 (by decide) (by omega) (fun c_3 => ?_) (fun c_3 => ?_)
  · skip
    have e9 : ¬ k % 2 = 1 := by omega
    have eow : q_ow k w h = w := if_neg e9
    have eoh : q_oh k w h = h := if_neg e9
    refine q_iconst C (nI 0) dX1_hasImage_10 (by decide) ?_
    refine q_istore_n C [(3, .int (nI 0)), (0, .ref (σ.2.1 (27 + i))), (1, .int (nI k)), (2, .ref (σ.2.1 (27 + j)))] dX1_hasImage_11 rfl (by decide) rfl ?_
    refine q_aload_n C dX1_hasImage_12 rfl 3 rfl ?_
    refine q_get C (k := 27 + j) (fi := 1) (.int (nI w2)) (q_isG (by omega)).1 (q_enG (by omega)) rfl iX1_hasImage_X1 (by decide) (by decide +kernel) rfl (by rw [← hg2.1]; rfl) dX1_hasImage_13 ?_
    refine q_iload_n C dX1_hasImage_16 rfl 0 rfl ?_
    refine q_if_eq C 27 dX1_hasImage_17 (by decide) (fun _ => ?_) (fun c_17 => absurd c_17 (by decide))
    refine q_aload_n C dX1_hasImage_27 rfl 1 rfl ?_
    refine q_get C (k := 27 + i) (fi := 1) (.int (nI w)) (q_isG (by omega)).1 (q_enG (by omega)) rfl iX1_hasImage_X1 (by decide) (by decide +kernel) rfl (by rw [← hg.1]; rfl) dX1_hasImage_28 ?_
    refine q_icmp_neN C 56 dX1_hasImage_31 (by decide) (by omega) (by omega) (fun c_31 => ?_) (fun c_31 => ?_)
    · skip
      rw [← eow] at c_31
      refine q_iconst C (nI 0) dX1_hasImage_56 (by decide) ?_
      refine hR _ _ _ _ _ _ _ ?_ (by first | rfl | decide) (Nat.le_of_ble_eq_true rfl) (Nat.le_of_ble_eq_true rfl) dX1_hasImage_57
      refine ⟨?_, rfl, rfl⟩
      first | exact q_is_y ⟨e1, e2, fun r c hr hc => hall r (by omega) c hc⟩ | exact q_is_n (fun z => c_99 (z.2.2 rr cc (by omega) (by omega))) | exact q_is_n (fun z => c_53 z.2.1) | exact q_is_n (fun z => c_31 z.1)
    · skip
      rw [← eow] at c_31
      refine q_aload_n C dX1_hasImage_34 rfl 3 rfl ?_
      refine q_get C (k := 27 + j) (fi := 2) (.int (nI h2)) (q_isG (by omega)).1 (q_enG (by omega)) rfl iX1_hasImage_X1 (by decide) (by decide +kernel) rfl (by rw [← hg2.2.1]; rfl) dX1_hasImage_35 ?_
      refine q_iload_n C dX1_hasImage_38 rfl 0 rfl ?_
      refine q_if_eq C 49 dX1_hasImage_39 (by decide) (fun _ => ?_) (fun c_39 => absurd c_39 (by decide))
      refine q_aload_n C dX1_hasImage_49 rfl 1 rfl ?_
      refine q_get C (k := 27 + i) (fi := 2) (.int (nI h)) (q_isG (by omega)).1 (q_enG (by omega)) rfl iX1_hasImage_X1 (by decide) (by decide +kernel) rfl (by rw [← hg.2.1]; rfl) dX1_hasImage_50 ?_
      refine q_icmp_eqN C 58 dX1_hasImage_53 (by decide) (by omega) (by omega) (fun c_53 => ?_) (fun c_53 => ?_)
      · skip
        rw [← eoh] at c_53
        refine q_sub (lv' := [(3, .int (nI 0)), (0, .ref (σ.2.1 (27 + i))), (1, .int (nI k)), (2, .ref (σ.2.1 (27 + j)))]) [0, 1, 2, 3] rfl ?_
        exact J_1 _ c_31 c_53
      · skip
        rw [← eoh] at c_53
        refine q_iconst C (nI 0) dX1_hasImage_56 (by decide) ?_
        refine hR _ _ _ _ _ _ _ ?_ (by first | rfl | decide) (Nat.le_of_ble_eq_true rfl) (Nat.le_of_ble_eq_true rfl) dX1_hasImage_57
        refine ⟨?_, rfl, rfl⟩
        first | exact q_is_y ⟨e1, e2, fun r c hr hc => hall r (by omega) c hc⟩ | exact q_is_n (fun z => c_99 (z.2.2 rr cc (by omega) (by omega))) | exact q_is_n (fun z => c_53 z.2.1) | exact q_is_n (fun z => c_31 z.1)
  · skip
    have e9 : k % 2 = 1 := by omega
    have eow : q_ow k w h = h := if_pos e9
    have eoh : q_oh k w h = w := if_pos e9
    refine q_iconst C (nI 1) dX1_hasImage_6 (by decide) ?_
    refine q_goto C 11 dX1_hasImage_7 (by decide) ?_
    refine q_istore_n C [(3, .int (nI 1)), (0, .ref (σ.2.1 (27 + i))), (1, .int (nI k)), (2, .ref (σ.2.1 (27 + j)))] dX1_hasImage_11 rfl (by decide) rfl ?_
    refine q_aload_n C dX1_hasImage_12 rfl 3 rfl ?_
    refine q_get C (k := 27 + j) (fi := 1) (.int (nI w2)) (q_isG (by omega)).1 (q_enG (by omega)) rfl iX1_hasImage_X1 (by decide) (by decide +kernel) rfl (by rw [← hg2.1]; rfl) dX1_hasImage_13 ?_
    refine q_iload_n C dX1_hasImage_16 rfl 0 rfl ?_
    refine q_if_eq C 27 dX1_hasImage_17 (by decide) (fun c_17 => absurd c_17 (by decide)) (fun _ => ?_)
    refine q_aload_n C dX1_hasImage_20 rfl 1 rfl ?_
    refine q_get C (k := 27 + i) (fi := 2) (.int (nI h)) (q_isG (by omega)).1 (q_enG (by omega)) rfl iX1_hasImage_X1 (by decide) (by decide +kernel) rfl (by rw [← hg.2.1]; rfl) dX1_hasImage_21 ?_
    refine q_goto C 31 dX1_hasImage_24 (by decide) ?_
    refine q_icmp_neN C 56 dX1_hasImage_31 (by decide) (by omega) (by omega) (fun c_31 => ?_) (fun c_31 => ?_)
    · skip
      rw [← eow] at c_31
      refine q_iconst C (nI 0) dX1_hasImage_56 (by decide) ?_
      refine hR _ _ _ _ _ _ _ ?_ (by first | rfl | decide) (Nat.le_of_ble_eq_true rfl) (Nat.le_of_ble_eq_true rfl) dX1_hasImage_57
      refine ⟨?_, rfl, rfl⟩
      first | exact q_is_y ⟨e1, e2, fun r c hr hc => hall r (by omega) c hc⟩ | exact q_is_n (fun z => c_99 (z.2.2 rr cc (by omega) (by omega))) | exact q_is_n (fun z => c_53 z.2.1) | exact q_is_n (fun z => c_31 z.1)
    · skip
      rw [← eow] at c_31
      refine q_aload_n C dX1_hasImage_34 rfl 3 rfl ?_
      refine q_get C (k := 27 + j) (fi := 2) (.int (nI h2)) (q_isG (by omega)).1 (q_enG (by omega)) rfl iX1_hasImage_X1 (by decide) (by decide +kernel) rfl (by rw [← hg2.2.1]; rfl) dX1_hasImage_35 ?_
      refine q_iload_n C dX1_hasImage_38 rfl 0 rfl ?_
      refine q_if_eq C 49 dX1_hasImage_39 (by decide) (fun c_39 => absurd c_39 (by decide)) (fun _ => ?_)
      refine q_aload_n C dX1_hasImage_42 rfl 1 rfl ?_
      refine q_get C (k := 27 + i) (fi := 1) (.int (nI w)) (q_isG (by omega)).1 (q_enG (by omega)) rfl iX1_hasImage_X1 (by decide) (by decide +kernel) rfl (by rw [← hg.1]; rfl) dX1_hasImage_43 ?_
      refine q_goto C 53 dX1_hasImage_46 (by decide) ?_
      refine q_icmp_eqN C 58 dX1_hasImage_53 (by decide) (by omega) (by omega) (fun c_53 => ?_) (fun c_53 => ?_)
      · skip
        rw [← eoh] at c_53
        refine q_sub (lv' := [(3, .int (nI 1)), (0, .ref (σ.2.1 (27 + i))), (1, .int (nI k)), (2, .ref (σ.2.1 (27 + j)))]) [0, 1, 2, 3] rfl ?_
        exact J_1 _ c_31 c_53
      · skip
        rw [← eoh] at c_53
        refine q_iconst C (nI 0) dX1_hasImage_56 (by decide) ?_
        refine hR _ _ _ _ _ _ _ ?_ (by first | rfl | decide) (Nat.le_of_ble_eq_true rfl) (Nat.le_of_ble_eq_true rfl) dX1_hasImage_57
        refine ⟨?_, rfl, rfl⟩
        first | exact q_is_y ⟨e1, e2, fun r c hr hc => hall r (by omega) c hc⟩ | exact q_is_n (fun z => c_99 (z.2.2 rr cc (by omega) (by omega))) | exact q_is_n (fun z => c_53 z.2.1) | exact q_is_n (fun z => c_31 z.1)
abbrev rX1_shows : Room := { frames := 2, cells := 0, slots := 0, locals := 34 }
theorem iX1_shows_X1 : ∀ w ∈ u_ws RX1 TX1 3, w ∈ wsX1_shows := by decide +kernel
set_option maxHeartbeats 4000000 in
set_option maxRecDepth 100000 in
/-- Grid.shows -/
theorem kX1_shows (l : Launch) (σ : q_E) (V : q_V) (G : q_G) {i w h : Nat} (hi : i < 21) (hg : q_gok V i w h) {j w2 h2 : Nat} (hj : j < 21) (hg2 : q_gok V j w2 h2) {cn rn : Nat} (hc : cn + w2 ≤ w) (hr : rn + h2 ≤ h) : q_Mi l yX1_shows wsX1_shows rX1_shows σ [.ref (σ.2.1 (27 + i)), .ref (σ.2.1 (27 + j)), .int (nI cn), .int (nI rn)] V G (fun r V' G' => q_is (q_shows V i w j w2 h2 cn rn) r ∧ V = V' ∧ G = G') 0 0 := by
  refine q_Mi_of (cc := cX1_shows) (maxL := 6) (lv := [(0, .ref (σ.2.1 (27 + i))), (1, .ref (σ.2.1 (27 + j))), (2, .int (nI cn)), (3, .int (nI rn))]) (by decide +kernel) rfl (Nat.le_of_ble_eq_true rfl) rfl ?_
  intro p e s m args below meth c Q C hR
  have hwh := q_gwh hg
  obtain ⟨hgw, hgh, hw1, hw8, hh1, hh6⟩ := id hg
  have hwh2 := q_gwh hg2
  obtain ⟨hgw2, hgh2, hw21, hw28, hh21, hh26⟩ := id hg2
  refine q_iconst C (nI 0) dX1_shows_0 (by decide) ?_
  refine q_istore C [(4, .int (nI 0)), (0, .ref (σ.2.1 (27 + i))), (1, .ref (σ.2.1 (27 + j))), (2, .int (nI cn)), (3, .int (nI rn))] dX1_shows_1 (by decide) rfl ?_
  have L_1 : ∀ (nL_1 : Nat) (dd : Nat) (hdd : dd ≤ h2) (hall : ∀ d, d < dd → ∀ t, t < w2 → V (48 + i) ((rn + d) * w + (cn + t)) = V (48 + j) (d * w2 + t)), h2 - dd < nL_1 → q_W σ p l e rX1_shows s m args below meth c Q 6 0 0 V G [(4, .int (nI dd)), (0, .ref (σ.2.1 (27 + i))), (1, .ref (σ.2.1 (27 + j))), (2, .int (nI cn)), (3, .int (nI rn))] 3 [] := by
    intro nL_1
    induction nL_1 with
    | zero => intro dd hdd hall h; exact absurd h (Nat.not_lt_zero _)
    | succ nL_1 ihL_1 =>
      intro dd hdd hall hmL_1
      refine q_iload C dX1_shows_3 0 rfl ?_
      refine q_aload_n C dX1_shows_5 rfl 2 rfl ?_
      refine q_get C (k := 27 + j) (fi := 2) (.int (nI h2)) (q_isG (by omega)).1 (q_enG (by omega)) rfl iX1_shows_X1 (by decide) (by decide +kernel) rfl (by rw [← hg2.2.1]; rfl) dX1_shows_6 ?_
      refine q_icmp_geN C 61 dX1_shows_9 (by decide) (by omega) (by omega) (fun c_9 => ?_) (fun c_9 => ?_)
      · skip
        refine q_iconst C (nI 1) dX1_shows_61 (by decide) ?_
        refine hR _ _ _ _ _ _ _ ?_ (by first | rfl | decide) (Nat.le_of_ble_eq_true rfl) (Nat.le_of_ble_eq_true rfl) dX1_shows_62
        refine ⟨?_, rfl, rfl⟩
        first | exact q_is_y (fun d t hd ht => hall d (by omega) t ht) | exact q_is_n (fun z => c_44 (z dd tt (by omega) (by omega)))
      · skip
        refine q_iconst C (nI 0) dX1_shows_12 (by decide) ?_
        refine q_istore C [(5, .int (nI 0)), (4, .int (nI dd)), (0, .ref (σ.2.1 (27 + i))), (1, .ref (σ.2.1 (27 + j))), (2, .int (nI cn)), (3, .int (nI rn))] dX1_shows_13 (by decide) rfl ?_
        have L_2 : ∀ (nL_2 : Nat) (tt : Nat) (htt : tt ≤ w2) (hin : ∀ t, t < tt → V (48 + i) ((rn + dd) * w + (cn + t)) = V (48 + j) (dd * w2 + t)), w2 - tt < nL_2 → q_W σ p l e rX1_shows s m args below meth c Q 6 0 0 V G [(5, .int (nI tt)), (0, .ref (σ.2.1 (27 + i))), (1, .ref (σ.2.1 (27 + j))), (2, .int (nI cn)), (3, .int (nI rn)), (4, .int (nI dd))] 15 [] := by
          intro nL_2
          induction nL_2 with
          | zero => intro tt htt hin h; exact absurd h (Nat.not_lt_zero _)
          | succ nL_2 ihL_2 =>
            intro tt htt hin hmL_2
            refine q_iload C dX1_shows_15 0 rfl ?_
            refine q_aload_n C dX1_shows_17 rfl 2 rfl ?_
            refine q_get C (k := 27 + j) (fi := 1) (.int (nI w2)) (q_isG (by omega)).1 (q_enG (by omega)) rfl iX1_shows_X1 (by decide) (by decide +kernel) rfl (by rw [← hg2.1]; rfl) dX1_shows_18 ?_
            refine q_icmp_geN C 55 dX1_shows_21 (by decide) (by omega) (by omega) (fun c_21 => ?_) (fun c_21 => ?_)
            · skip
              refine q_iincN C [(4, .int (nI (dd + 1))), (5, .int (nI tt)), (0, .ref (σ.2.1 (27 + i))), (1, .ref (σ.2.1 (27 + j))), (2, .int (nI cn)), (3, .int (nI rn))] dX1_shows_55 5 rfl (by decide) rfl ?_
              refine q_goto C 3 dX1_shows_58 (by decide) ?_
              refine q_sub (lv' := [(4, .int (nI (dd + 1))), (0, .ref (σ.2.1 (27 + i))), (1, .ref (σ.2.1 (27 + j))), (2, .int (nI cn)), (3, .int (nI rn))]) [0, 2, 3, 4, 5] rfl ?_
              exact ihL_1 (dd + 1) (by omega) (lt_s hall (fun t ht => hin t (by omega))) (by omega)
            · skip
              refine q_aload_n C dX1_shows_24 rfl 1 rfl ?_
              refine q_iload_n C dX1_shows_25 rfl 3 rfl ?_
              refine q_iload C dX1_shows_26 0 rfl ?_
              refine q_iaddN C dX1_shows_28  ?_
              refine q_iload_n C dX1_shows_29 rfl 4 rfl ?_
              refine q_iload C dX1_shows_30 5 rfl ?_
              refine q_iaddN C dX1_shows_32  ?_
              refine q_callVi C (As := [.int (nI (cn + tt)), .int (nI (rn + dd))]) (rest := []) (k := 27 + i) (q_isG (by omega)).1 (q_enG (by omega)) rfl rfl (kX1_colourAt l σ V G hi hg (cn := cn + tt) (rn := rn + dd) (by omega) (by omega)) 2 gX1_shows_X1_colourAt rfl rfl rfl (by decide +kernel) ⟨Nat.le_of_ble_eq_true rfl, Nat.le_of_ble_eq_true rfl⟩ dX1_shows_33 rfl (Nat.le_of_ble_eq_true rfl) ⟨Nat.le_of_ble_eq_true rfl, Nat.le_of_ble_eq_true rfl⟩ (fun r_33 V_3 G_4 hq_33 => ?_)
              obtain ⟨rfl, rfl, rfl⟩ := hq_33
              refine q_aload_n C dX1_shows_36 rfl 2 rfl ?_
              refine q_iload C dX1_shows_37 0 rfl ?_
              refine q_iload C dX1_shows_39 5 rfl ?_
              refine q_callVi C (As := [.int (nI tt), .int (nI dd)]) (rest := [.int (V (48 + i) ((rn + dd) * w + (cn + tt)))]) (k := 27 + j) (q_isG (by omega)).1 (q_enG (by omega)) rfl rfl (kX1_colourAt l σ V G hj hg2 (cn := tt) (rn := dd) (by omega) (by omega)) 2 gX1_shows_X1_colourAt rfl rfl rfl (by decide +kernel) ⟨Nat.le_of_ble_eq_true rfl, Nat.le_of_ble_eq_true rfl⟩ dX1_shows_41 rfl (Nat.le_of_ble_eq_true rfl) ⟨Nat.le_of_ble_eq_true rfl, Nat.le_of_ble_eq_true rfl⟩ (fun r_41 V_5 G_6 hq_41 => ?_)
              obtain ⟨rfl, rfl, rfl⟩ := hq_41
              refine q_icmp_eq C 49 dX1_shows_44 (by decide) (fun c_44 => ?_) (fun c_44 => ?_)
              · skip
                refine q_iincN C [(5, .int (nI (tt + 1))), (0, .ref (σ.2.1 (27 + i))), (1, .ref (σ.2.1 (27 + j))), (2, .int (nI cn)), (3, .int (nI rn)), (4, .int (nI dd))] dX1_shows_49 0 rfl (by decide) rfl ?_
                refine q_goto C 15 dX1_shows_52 (by decide) ?_
                refine q_sub (lv' := [(5, .int (nI (tt + 1))), (0, .ref (σ.2.1 (27 + i))), (1, .ref (σ.2.1 (27 + j))), (2, .int (nI cn)), (3, .int (nI rn)), (4, .int (nI dd))]) [0, 1, 2, 3, 4, 5] rfl ?_
                exact ihL_2 (tt + 1) (by omega) (lt_s hin c_44) (by omega)
              · skip
                refine q_iconst C (nI 0) dX1_shows_47 (by decide) ?_
                refine hR _ _ _ _ _ _ _ ?_ (by first | rfl | decide) (Nat.le_of_ble_eq_true rfl) (Nat.le_of_ble_eq_true rfl) dX1_shows_48
                refine ⟨?_, rfl, rfl⟩
                first | exact q_is_y (fun d t hd ht => hall d (by omega) t ht) | exact q_is_n (fun z => c_44 (z dd tt (by omega) (by omega)))
        refine q_sub (lv' := [(5, .int (nI 0)), (0, .ref (σ.2.1 (27 + i))), (1, .ref (σ.2.1 (27 + j))), (2, .int (nI cn)), (3, .int (nI rn)), (4, .int (nI dd))]) [0, 2, 3, 4, 5, 1] rfl ?_
        exact L_2 _ 0 (Nat.zero_le _) lt_0 (Nat.lt_succ_self _)
  refine q_sub (lv' := [(4, .int (nI 0)), (0, .ref (σ.2.1 (27 + i))), (1, .ref (σ.2.1 (27 + j))), (2, .int (nI cn)), (3, .int (nI rn))]) [0, 1, 2, 3, 4] rfl ?_
  exact L_1 _ 0 (Nat.zero_le _) lt_0 (Nat.lt_succ_self _)
abbrev rX1_placesOf : Room := { frames := 3, cells := 0, slots := 0, locals := 59 }
theorem iX1_placesOf_X1 : ∀ w ∈ u_ws RX1 TX1 3, w ∈ wsX1_placesOf := by decide +kernel
set_option maxHeartbeats 4000000 in
set_option maxRecDepth 100000 in
/-- Grid.placesOf -/
theorem kX1_placesOf (l : Launch) (σ : q_E) (V : q_V) (G : q_G) {i w h : Nat} (hi : i < 21) (hg : q_gok V i w h) {j w2 h2 : Nat} (hj : j < 21) (hg2 : q_gok V j w2 h2) : q_Mi l yX1_placesOf wsX1_placesOf rX1_placesOf σ [.ref (σ.2.1 (27 + i)), .ref (σ.2.1 (27 + j))] V G (fun r V' G' => nI (q_places V i w h j w2 h2) = r ∧ V = V' ∧ G = G') 0 0 := by
  refine q_Mi_of (cc := cX1_placesOf) (maxL := 5) (lv := [(0, .ref (σ.2.1 (27 + i))), (1, .ref (σ.2.1 (27 + j)))]) (by decide +kernel) rfl (Nat.le_of_ble_eq_true rfl) rfl ?_
  intro p e s m args below meth c Q C hR
  have hwh := q_gwh hg
  obtain ⟨hgw, hgh, hw1, hw8, hh1, hh6⟩ := id hg
  have hwh2 := q_gwh hg2
  obtain ⟨hgw2, hgh2, hw21, hw28, hh21, hh26⟩ := id hg2
  refine q_iconst C (nI 0) dX1_placesOf_0 (by decide) ?_
  refine q_istore_n C [(2, .int (nI 0)), (0, .ref (σ.2.1 (27 + i))), (1, .ref (σ.2.1 (27 + j)))] dX1_placesOf_1 rfl (by decide) rfl ?_
  refine q_iconst C (nI 0) dX1_placesOf_2 (by decide) ?_
  refine q_istore_n C [(3, .int (nI 0)), (2, .int (nI 0)), (0, .ref (σ.2.1 (27 + i))), (1, .ref (σ.2.1 (27 + j)))] dX1_placesOf_3 rfl (by decide) rfl ?_
  have L_1 : ∀ (nL_1 : Nat) (rr n : Nat) (hrr : rr ≤ h + 1 - h2) (hn : n = fb_sm (fun r => q_ct (fun c => q_shows V i w j w2 h2 c r) (w + 1 - w2)) rr), h + 1 - h2 - rr < nL_1 → q_W σ p l e rX1_placesOf s m args below meth c Q 5 0 0 V G [(2, .int (nI n)), (3, .int (nI rr)), (0, .ref (σ.2.1 (27 + i))), (1, .ref (σ.2.1 (27 + j)))] 4 [] := by
    intro nL_1
    induction nL_1 with
    | zero => intro rr n hrr hn h; exact absurd h (Nat.not_lt_zero _)
    | succ nL_1 ihL_1 =>
      intro rr n hrr hn hmL_1
      refine q_iload_n C dX1_placesOf_4 rfl 1 rfl ?_
      refine q_aload_n C dX1_placesOf_5 rfl 3 rfl ?_
      refine q_get C (k := 27 + j) (fi := 2) (.int (nI h2)) (q_isG (by omega)).1 (q_enG (by omega)) rfl iX1_placesOf_X1 (by decide) (by decide +kernel) rfl (by rw [← hg2.2.1]; rfl) dX1_placesOf_6 ?_
      refine q_iaddN C dX1_placesOf_9  ?_
      refine q_aload_n C dX1_placesOf_10 rfl 2 rfl ?_
      refine q_get C (k := 27 + i) (fi := 2) (.int (nI h)) (q_isG (by omega)).1 (q_enG (by omega)) rfl iX1_placesOf_X1 (by decide) (by decide +kernel) rfl (by rw [← hg.2.1]; rfl) dX1_placesOf_11 ?_
      refine q_icmp_gtN C 60 dX1_placesOf_14 (by decide) (by omega) (by omega) (fun c_14 => ?_) (fun c_14 => ?_)
      · skip
        refine q_iload_n C dX1_placesOf_60 rfl 0 rfl ?_
        refine hR _ _ _ _ _ _ _ ?_ rfl (Nat.le_of_ble_eq_true rfl) (Nat.le_of_ble_eq_true rfl) dX1_placesOf_61
        refine ⟨?_, rfl, rfl⟩
        rw [hn, q_places, show rr = h + 1 - h2 by omega]
      · skip
        refine q_iconst C (nI 0) dX1_placesOf_17 (by decide) ?_
        refine q_istore C [(4, .int (nI 0)), (2, .int (nI n)), (3, .int (nI rr)), (0, .ref (σ.2.1 (27 + i))), (1, .ref (σ.2.1 (27 + j)))] dX1_placesOf_18 (by decide) rfl ?_
        have L_2 : ∀ (nL_2 : Nat) (cc n2 : Nat) (hcc : cc ≤ w + 1 - w2) (hn2 : n2 = n + q_ct (fun c => q_shows V i w j w2 h2 c rr) cc), w + 1 - w2 - cc < nL_2 → q_W σ p l e rX1_placesOf s m args below meth c Q 5 0 0 V G [(2, .int (nI n2)), (4, .int (nI cc)), (0, .ref (σ.2.1 (27 + i))), (1, .ref (σ.2.1 (27 + j))), (3, .int (nI rr))] 20 [] := by
          intro nL_2
          induction nL_2 with
          | zero => intro cc n2 hcc hn2 h; exact absurd h (Nat.not_lt_zero _)
          | succ nL_2 ihL_2 =>
            intro cc n2 hcc hn2 hmL_2
            refine q_iload C dX1_placesOf_20 1 rfl ?_
            refine q_aload_n C dX1_placesOf_22 rfl 3 rfl ?_
            refine q_get C (k := 27 + j) (fi := 1) (.int (nI w2)) (q_isG (by omega)).1 (q_enG (by omega)) rfl iX1_placesOf_X1 (by decide) (by decide +kernel) rfl (by rw [← hg2.1]; rfl) dX1_placesOf_23 ?_
            refine q_iaddN C dX1_placesOf_26  ?_
            refine q_aload_n C dX1_placesOf_27 rfl 2 rfl ?_
            refine q_get C (k := 27 + i) (fi := 1) (.int (nI w)) (q_isG (by omega)).1 (q_enG (by omega)) rfl iX1_placesOf_X1 (by decide) (by decide +kernel) rfl (by rw [← hg.1]; rfl) dX1_placesOf_28 ?_
            refine q_icmp_gtN C 54 dX1_placesOf_31 (by decide) (by omega) (by omega) (fun c_31 => ?_) (fun c_31 => ?_)
            · skip
              refine q_iincN C [(3, .int (nI (rr + 1))), (2, .int (nI n2)), (4, .int (nI cc)), (0, .ref (σ.2.1 (27 + i))), (1, .ref (σ.2.1 (27 + j)))] dX1_placesOf_54 4 rfl (by decide) rfl ?_
              refine q_goto C 4 dX1_placesOf_57 (by decide) ?_
              refine q_sub (lv' := [(2, .int (nI n2)), (3, .int (nI (rr + 1))), (0, .ref (σ.2.1 (27 + i))), (1, .ref (σ.2.1 (27 + j)))]) [1, 0, 3, 4] rfl ?_
              exact ihL_1 (rr + 1) _ (by omega) (by rw [hn2, hn, fb_sm_succ, show cc = w + 1 - w2 by omega]) (by omega)
            · skip
              refine q_aload_n C dX1_placesOf_34 rfl 2 rfl ?_
              refine q_aload_n C dX1_placesOf_35 rfl 3 rfl ?_
              refine q_iload C dX1_placesOf_36 1 rfl ?_
              refine q_iload_n C dX1_placesOf_38 rfl 4 rfl ?_
              refine q_callVi C (As := [.ref (σ.2.1 (27 + j)), .int (nI cc), .int (nI rr)]) (rest := []) (k := 27 + i) (q_isG (by omega)).1 (q_enG (by omega)) rfl rfl (kX1_shows l σ V G hi hg hj hg2 (cn := cc) (rn := rr) (by omega) (by omega)) 3 gX1_placesOf_X1_shows rfl rfl rfl (by decide +kernel) ⟨Nat.le_of_ble_eq_true rfl, Nat.le_of_ble_eq_true rfl⟩ dX1_placesOf_39 rfl (Nat.le_of_ble_eq_true rfl) ⟨Nat.le_of_ble_eq_true rfl, Nat.le_of_ble_eq_true rfl⟩ (fun r_39 V_3 G_4 hq_39 => ?_)
              obtain ⟨hs_39, rfl, rfl⟩ := hq_39
              refine q_if_eq C 48 dX1_placesOf_42 (by decide) (fun c_42 => ?_) (fun c_42 => ?_)
              · skip
                refine q_iincN C [(4, .int (nI (cc + 1))), (2, .int (nI n2)), (0, .ref (σ.2.1 (27 + i))), (1, .ref (σ.2.1 (27 + j))), (3, .int (nI rr))] dX1_placesOf_48 1 rfl (by decide) rfl ?_
                refine q_goto C 20 dX1_placesOf_51 (by decide) ?_
                refine q_sub (lv' := [(2, .int (nI n2)), (4, .int (nI (cc + 1))), (0, .ref (σ.2.1 (27 + i))), (1, .ref (σ.2.1 (27 + j))), (3, .int (nI rr))]) [1, 0, 2, 3, 4] rfl ?_
                exact ihL_2 (cc + 1) _ (by omega) (by first | exact hn2.trans (congrArg (n + ·) (q_ct_n (p := fun c => q_shows V i w j w2 h2 c rr) ((q_is_eq hs_39).mp c_42)).symm) | (have e9 := q_ct_y (p := fun c => q_shows V i w j w2 h2 c rr) (n := cc) ((q_is_ne hs_39).mp c_42); omega)) (by omega)
              · skip
                refine q_iincN C [(2, .int (nI (n2 + 1))), (4, .int (nI cc)), (0, .ref (σ.2.1 (27 + i))), (1, .ref (σ.2.1 (27 + j))), (3, .int (nI rr))] dX1_placesOf_45 0 rfl (by decide) rfl ?_
                refine q_iincN C [(4, .int (nI (cc + 1))), (2, .int (nI (n2 + 1))), (0, .ref (σ.2.1 (27 + i))), (1, .ref (σ.2.1 (27 + j))), (3, .int (nI rr))] dX1_placesOf_48 1 rfl (by decide) rfl ?_
                refine q_goto C 20 dX1_placesOf_51 (by decide) ?_
                refine q_sub (lv' := [(2, .int (nI (n2 + 1))), (4, .int (nI (cc + 1))), (0, .ref (σ.2.1 (27 + i))), (1, .ref (σ.2.1 (27 + j))), (3, .int (nI rr))]) [1, 0, 2, 3, 4] rfl ?_
                exact ihL_2 (cc + 1) _ (by omega) (by first | exact hn2.trans (congrArg (n + ·) (q_ct_n (p := fun c => q_shows V i w j w2 h2 c rr) ((q_is_eq hs_39).mp c_42)).symm) | (have e9 := q_ct_y (p := fun c => q_shows V i w j w2 h2 c rr) (n := cc) ((q_is_ne hs_39).mp c_42); omega)) (by omega)
        refine q_sub (lv' := [(2, .int (nI n)), (4, .int (nI 0)), (0, .ref (σ.2.1 (27 + i))), (1, .ref (σ.2.1 (27 + j))), (3, .int (nI rr))]) [1, 0, 3, 4, 2] rfl ?_
        exact L_2 _ 0 n (Nat.zero_le _) rfl (Nat.lt_succ_self _)
  refine q_sub (lv' := [(2, .int (nI 0)), (3, .int (nI 0)), (0, .ref (σ.2.1 (27 + i))), (1, .ref (σ.2.1 (27 + j)))]) [1, 0, 2, 3] rfl ?_
  exact L_1 _ 0 0 (Nat.zero_le _) rfl (Nat.lt_succ_self _)
