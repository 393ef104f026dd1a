abbrev rX1_size : Room := { frames := 1, cells := 0, slots := 0, locals := 12 }
theorem iX1_size_X1 : ∀ w ∈ u_ws RX1 TX1 3, w ∈ wsX1_size := by decide +kernel
set_option maxHeartbeats 4000000 in
set_option maxRecDepth 100000 in
/-- Grid.size -/
theorem kX1_size (l : Launch) (σ : q_E) (V : q_V) (G : q_G) {i w h : Nat} (hi : i < 21) (hg : q_gok V i w h) : q_Mi l yX1_size wsX1_size rX1_size σ [.ref (σ.2.1 (27 + i))] V G (fun r V' G' => nI (w * h) = r ∧ V = V' ∧ G = G') 0 0 := by
  refine q_Mi_of (cc := cX1_size) (maxL := 1) (lv := [(0, .ref (σ.2.1 (27 + i)))]) (by decide +kernel) rfl (Nat.le_of_ble_eq_true rfl) rfl ?_
  intro p e s m args below meth c Q C hR
  have hwh := q_gwh hg
  obtain ⟨hgw, hgh, hw1, hw8, hh1, hh6⟩ := id hg
  refine q_aload_n C dX1_size_0 rfl 0 rfl ?_
  refine q_get C (k := 27 + i) (fi := 1) (.int (nI w)) (q_isG (by omega)).1 (q_enG (by omega)) rfl iX1_size_X1 (by decide) (by decide +kernel) rfl (by rw [← hg.1]; rfl) dX1_size_1 ?_
  refine q_aload_n C dX1_size_4 rfl 0 rfl ?_
  refine q_get C (k := 27 + i) (fi := 2) (.int (nI h)) (q_isG (by omega)).1 (q_enG (by omega)) rfl iX1_size_X1 (by decide) (by decide +kernel) rfl (by rw [← hg.2.1]; rfl) dX1_size_5 ?_
  refine q_imulN C dX1_size_8  ?_
  refine hR _ _ _ _ _ _ _ ?_ rfl (Nat.le_of_ble_eq_true rfl) (Nat.le_of_ble_eq_true rfl) dX1_size_9
  exact ⟨rfl, rfl, rfl⟩
abbrev rX1_hasCell : Room := { frames := 1, cells := 0, slots := 0, locals := 12 }
theorem iX1_hasCell_X1 : ∀ w ∈ u_ws RX1 TX1 3, w ∈ wsX1_hasCell := by decide +kernel
set_option maxHeartbeats 4000000 in
set_option maxRecDepth 100000 in
/-- Grid.hasCell -/
theorem kX1_hasCell (l : Launch) (σ : q_E) (V : q_V) (G : q_G) {i w h : Nat} (hi : i < 21) (hg : q_gok V i w h) (x y : Int32) : q_Mi l yX1_hasCell wsX1_hasCell rX1_hasCell σ [.ref (σ.2.1 (27 + i)), .int x, .int y] V G (fun r V' G' => q_is (q_ok w x ∧ q_ok h y) r ∧ V = V' ∧ G = G') 0 0 := by
  refine q_Mi_of (cc := cX1_hasCell) (maxL := 3) (lv := [(0, .ref (σ.2.1 (27 + i))), (1, .int x), (2, .int y)]) (by decide +kernel) rfl (Nat.le_of_ble_eq_true rfl) rfl ?_
  intro p e s m args below meth c Q C hR
  have hwh := q_gwh hg
  obtain ⟨hgw, hgh, hw1, hw8, hh1, hh6⟩ := id hg
  refine q_iload_n C dX1_hasCell_0 rfl 1 rfl ?_
  refine q_if_lt C 28 dX1_hasCell_1 (by decide) (fun c_1 => ?_) (fun c_1 => ?_)
  · skip
    refine q_iconst C (nI 0) dX1_hasCell_28 (by decide) ?_
    refine hR _ _ _ _ _ _ _ ?_ (by first | rfl | decide) (Nat.le_of_ble_eq_true rfl) (Nat.le_of_ble_eq_true rfl) dX1_hasCell_29
    first | exact ⟨q_is_n (fun z => q_ok_neg c_13 (by omega) z.2), rfl, rfl⟩ | exact ⟨q_is_n (fun z => q_ok_ge2 c_21 (by omega) z.2), rfl, rfl⟩ | exact ⟨q_is_n (fun z => q_ok_neg c_1 (by omega) z.1), rfl, rfl⟩ | exact ⟨q_is_n (fun z => q_ok_ge2 c_9 (by omega) z.1), rfl, rfl⟩
  · skip
    refine q_iload_n C dX1_hasCell_4 rfl 1 rfl ?_
    refine q_aload_n C dX1_hasCell_5 rfl 0 rfl ?_
    refine q_get C (k := 27 + i) (fi := 1) (.int (nI w)) (q_isG (by omega)).1 (q_enG (by omega)) rfl iX1_hasCell_X1 (by decide) (by decide +kernel) rfl (by rw [← hg.1]; rfl) dX1_hasCell_6 ?_
    refine q_icmp_ge C 28 dX1_hasCell_9 (by decide) (fun c_9 => ?_) (fun c_9 => ?_)
    · skip
      refine q_iconst C (nI 0) dX1_hasCell_28 (by decide) ?_
      refine hR _ _ _ _ _ _ _ ?_ (by first | rfl | decide) (Nat.le_of_ble_eq_true rfl) (Nat.le_of_ble_eq_true rfl) dX1_hasCell_29
      first | exact ⟨q_is_n (fun z => q_ok_neg c_13 (by omega) z.2), rfl, rfl⟩ | exact ⟨q_is_n (fun z => q_ok_ge2 c_21 (by omega) z.2), rfl, rfl⟩ | exact ⟨q_is_n (fun z => q_ok_neg c_1 (by omega) z.1), rfl, rfl⟩ | exact ⟨q_is_n (fun z => q_ok_ge2 c_9 (by omega) z.1), rfl, rfl⟩
    · skip
      refine q_iload_n C dX1_hasCell_12 rfl 2 rfl ?_
      refine q_if_lt C 28 dX1_hasCell_13 (by decide) (fun c_13 => ?_) (fun c_13 => ?_)
      · skip
        refine q_iconst C (nI 0) dX1_hasCell_28 (by decide) ?_
        refine hR _ _ _ _ _ _ _ ?_ (by first | rfl | decide) (Nat.le_of_ble_eq_true rfl) (Nat.le_of_ble_eq_true rfl) dX1_hasCell_29
        first | exact ⟨q_is_n (fun z => q_ok_neg c_13 (by omega) z.2), rfl, rfl⟩ | exact ⟨q_is_n (fun z => q_ok_ge2 c_21 (by omega) z.2), rfl, rfl⟩ | exact ⟨q_is_n (fun z => q_ok_neg c_1 (by omega) z.1), rfl, rfl⟩ | exact ⟨q_is_n (fun z => q_ok_ge2 c_9 (by omega) z.1), rfl, rfl⟩
      · skip
        refine q_iload_n C dX1_hasCell_16 rfl 2 rfl ?_
        refine q_aload_n C dX1_hasCell_17 rfl 0 rfl ?_
        refine q_get C (k := 27 + i) (fi := 2) (.int (nI h)) (q_isG (by omega)).1 (q_enG (by omega)) rfl iX1_hasCell_X1 (by decide) (by decide +kernel) rfl (by rw [← hg.2.1]; rfl) dX1_hasCell_18 ?_
        refine q_icmp_ge C 28 dX1_hasCell_21 (by decide) (fun c_21 => ?_) (fun c_21 => ?_)
        · skip
          refine q_iconst C (nI 0) dX1_hasCell_28 (by decide) ?_
          refine hR _ _ _ _ _ _ _ ?_ (by first | rfl | decide) (Nat.le_of_ble_eq_true rfl) (Nat.le_of_ble_eq_true rfl) dX1_hasCell_29
          first | exact ⟨q_is_n (fun z => q_ok_neg c_13 (by omega) z.2), rfl, rfl⟩ | exact ⟨q_is_n (fun z => q_ok_ge2 c_21 (by omega) z.2), rfl, rfl⟩ | exact ⟨q_is_n (fun z => q_ok_neg c_1 (by omega) z.1), rfl, rfl⟩ | exact ⟨q_is_n (fun z => q_ok_ge2 c_9 (by omega) z.1), rfl, rfl⟩
        · skip
          refine q_iconst C (nI 1) dX1_hasCell_24 (by decide) ?_
          refine q_goto C 29 dX1_hasCell_25 (by decide) ?_
          refine hR _ _ _ _ _ _ _ ?_ (by first | rfl | decide) (Nat.le_of_ble_eq_true rfl) (Nat.le_of_ble_eq_true rfl) dX1_hasCell_29
          exact ⟨q_is_y ⟨q_ok_of2 c_1 c_9 (by omega), q_ok_of2 c_13 c_21 (by omega)⟩, rfl, rfl⟩
abbrev rX1_colourAt : Room := { frames := 1, cells := 0, slots := 0, locals := 12 }
theorem iX1_colourAt_X1 : ∀ w ∈ u_ws RX1 TX1 3, w ∈ wsX1_colourAt := by decide +kernel
set_option maxHeartbeats 4000000 in
set_option maxRecDepth 100000 in
/-- Grid.colourAt -/
theorem kX1_colourAt (l : Launch) (σ : q_E) (V : q_V) (G : q_G) {i w h : Nat} (hi : i < 21) (hg : q_gok V i w h) {cn rn : Nat} (hc : cn < w) (hr : rn < h) : q_Mi l yX1_colourAt wsX1_colourAt rX1_colourAt σ [.ref (σ.2.1 (27 + i)), .int (nI cn), .int (nI rn)] V G (fun r V' G' => V (48 + i) (rn * w + cn) = r ∧ V = V' ∧ G = G') 0 0 := by
  refine q_Mi_of (cc := cX1_colourAt) (maxL := 3) (lv := [(0, .ref (σ.2.1 (27 + i))), (1, .int (nI cn)), (2, .int (nI rn))]) (by decide +kernel) rfl (Nat.le_of_ble_eq_true rfl) rfl ?_
  intro p e s m args below meth c Q C hR
  have hwh := q_gwh hg
  obtain ⟨hgw, hgh, hw1, hw8, hh1, hh6⟩ := id hg
  have hix := q_ix hr hc
  refine q_aload_n C dX1_colourAt_0 rfl 0 rfl ?_
  refine q_get C (k := 27 + i) (fi := 0) (.ref (σ.2.1 (48 + i))) (q_isG (by omega)).1 (q_enG (by omega)) rfl iX1_colourAt_X1 (by decide) (by decide +kernel) rfl rfl dX1_colourAt_1 ?_
  refine q_iload_n C dX1_colourAt_4 rfl 2 rfl ?_
  refine q_aload_n C dX1_colourAt_5 rfl 0 rfl ?_
  refine q_get C (k := 27 + i) (fi := 1) (.int (nI w)) (q_isG (by omega)).1 (q_enG (by omega)) rfl iX1_colourAt_X1 (by decide) (by decide +kernel) rfl (by rw [← hg.1]; rfl) dX1_colourAt_6 ?_
  refine q_imulN C dX1_colourAt_9  ?_
  refine q_iload_n C dX1_colourAt_10 rfl 1 rfl ?_
  refine q_iaddN C dX1_colourAt_11  ?_
  refine q_ialdN C (k := 48 + i) (q_isI_cell (by omega)) (by omega) (by decide) dX1_colourAt_12 ?_
  refine hR _ _ _ _ _ _ _ ?_ rfl (Nat.le_of_ble_eq_true rfl) (Nat.le_of_ble_eq_true rfl) dX1_colourAt_13
  exact ⟨rfl, rfl, rfl⟩
abbrev rX1_paint : Room := { frames := 1, cells := 0, slots := 0, locals := 12 }
theorem iX1_paint_X1 : ∀ w ∈ u_ws RX1 TX1 3, w ∈ wsX1_paint := by decide +kernel
set_option maxHeartbeats 4000000 in
set_option maxRecDepth 100000 in
/-- Grid.paint -/
theorem kX1_paint (l : Launch) (σ : q_E) (V : q_V) (G : q_G) {i w h : Nat} (hi : i < 21) (hg : q_gok V i w h) {cn rn : Nat} (hc : cn < w) (hr : rn < h) (x : Int32) : q_Mv l yX1_paint wsX1_paint rX1_paint σ [.ref (σ.2.1 (27 + i)), .int (nI cn), .int (nI rn), .int x] V G (fun V' G' => q_up V (48 + i) (rn * w + cn) x = V' ∧ G = G') 0 0 := by
  refine q_Mv_of (cc := cX1_paint) (maxL := 4) (lv := [(0, .ref (σ.2.1 (27 + i))), (1, .int (nI cn)), (2, .int (nI rn)), (3, .int x)]) (by decide +kernel) rfl (Nat.le_of_ble_eq_true rfl) rfl ?_
  intro p e s m args below meth c Q C hR
  have hwh := q_gwh hg
  obtain ⟨hgw, hgh, hw1, hw8, hh1, hh6⟩ := id hg
  have hix := q_ix hr hc
  refine q_aload_n C dX1_paint_0 rfl 0 rfl ?_
  refine q_get C (k := 27 + i) (fi := 0) (.ref (σ.2.1 (48 + i))) (q_isG (by omega)).1 (q_enG (by omega)) rfl iX1_paint_X1 (by decide) (by decide +kernel) rfl rfl dX1_paint_1 ?_
  refine q_iload_n C dX1_paint_4 rfl 2 rfl ?_
  refine q_aload_n C dX1_paint_5 rfl 0 rfl ?_
  refine q_get C (k := 27 + i) (fi := 1) (.int (nI w)) (q_isG (by omega)).1 (q_enG (by omega)) rfl iX1_paint_X1 (by decide) (by decide +kernel) rfl (by rw [← hg.1]; rfl) dX1_paint_6 ?_
  refine q_imulN C dX1_paint_9  ?_
  refine q_iload_n C dX1_paint_10 rfl 1 rfl ?_
  refine q_iaddN C dX1_paint_11  ?_
  refine q_iload_n C dX1_paint_12 rfl 3 rfl ?_
  refine q_iastN C (k := 48 + i) (q_isI_cell (by omega)) (by omega) (by decide) dX1_paint_13 ?_
  refine hR _ _ _ _ _ _ ?_ (Nat.le_of_ble_eq_true rfl) (Nat.le_of_ble_eq_true rfl) dX1_paint_14
  exact ⟨rfl, rfl⟩
