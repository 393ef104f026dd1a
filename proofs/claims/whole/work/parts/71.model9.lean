abbrev rX3_thrown : Room := { frames := 1, cells := 0, slots := 0, locals := 12 }
theorem iX3_thrown_X3 : ∀ w ∈ u_ws RX3 TX3 26, w ∈ wsX3_thrown := by decide +kernel
set_option maxHeartbeats 4000000 in
set_option maxRecDepth 100000 in
/-- thrown, the reference -/
theorem kX3_thrown (l : Launch) (σ : q_E) (V : q_V) (G : q_G) : q_Mi l yX3_thrown wsX3_thrown rX3_thrown σ [.ref (σ.2.1 19)] V G (fun r V' G' => V 19 0 = r ∧ V = V' ∧ G = G') 0 0 := by
  refine q_Mi_of (cc := cX3_thrown) (maxL := 1) (lv := [(0, .ref (σ.2.1 19))]) (by decide +kernel) rfl (Nat.le_of_ble_eq_true rfl) rfl ?_
  intro p e s m args below meth c Q C hR
  refine q_aload_n C dX3_thrown_0 rfl 0 rfl ?_
  refine q_get C (k := 19) (fi := 0) (.int (V 19 0)) (by omega) q_enMO rfl iX3_thrown_X3 (by decide) (by decide +kernel) rfl rfl dX3_thrown_1 ?_
  refine hR _ _ _ _ _ _ _ ?_ rfl (Nat.le_of_ble_eq_true rfl) (Nat.le_of_ble_eq_true rfl) dX3_thrown_4
  exact ⟨rfl, rfl, rfl⟩
