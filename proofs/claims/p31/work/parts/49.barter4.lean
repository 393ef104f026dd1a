def q_rw (V : q_V) (l : List Nat) : Prop := ∀ i, i < l.length → V 16 i = nI (l.getD i 0)
def q_b7 (l : List Nat) : Prop := ∀ i, i < l.length → l.getD i 0 < 7
theorem q_pm2 {b : Nat} (h : 1 ≤ b) : nI b + Int32.ofInt (-1) = nI (b - 1) := by
  obtain ⟨c, rfl⟩ : ∃ c, b = c + 1 := ⟨b - 1, by omega⟩
  rw [Nat.add_sub_cancel]
  exact q_pm1 c
theorem q_swp_len (l : List Nat) (i j : Nat) : (q_swp l i j).length = l.length := by simp [q_swp]
theorem q_set_gd {l : List Nat} {i x k : Nat} (hk : k < l.length) : (l.set i x).getD k 0 = if k = i then x else l.getD k 0 := by
  rw [q_gde (by simpa using hk), List.getElem_set, q_gde hk]
  by_cases h : i = k
  · rw [if_pos h, if_pos h.symm]
  · rw [if_neg h, if_neg (fun e => h e.symm)]
theorem q_swp_gd {l : List Nat} {i j k : Nat} (hk : k < l.length) : (q_swp l i j).getD k 0 = if k = j then l.getD i 0 else if k = i then l.getD j 0 else l.getD k 0 := by
  unfold q_swp
  rw [q_set_gd (by simpa using hk), q_set_gd hk]
theorem q_b7_swp {l : List Nat} {i j : Nat} (h : q_b7 l) (hi : i < l.length) (hj : j < l.length) : q_b7 (q_swp l i j) := by
  intro k hk
  rw [q_swp_len] at hk
  rw [q_swp_gd hk]
  split
  · exact h i hi
  · split
    · exact h j hj
    · exact h k hk
theorem q_rw_swp {V : q_V} {l : List Nat} {i j : Nat} (h : q_rw V l) (hi : i < l.length) (hj : j < l.length) : q_rw (q_up (q_up V 16 i (V 16 j)) 16 j (V 16 i)) (q_swp l i j) := by
  intro k hk
  rw [q_swp_len] at hk
  rw [q_swp_gd hk]
  by_cases h1 : k = j
  · subst h1
    rw [if_pos rfl, q_up_self]
    exact h i hi
  · rw [if_neg h1, q_up_ne _ _ (by omega)]
    by_cases h2 : k = i
    · subst h2
      rw [if_pos rfl, q_up_self]
      exact h j hj
    · rw [if_neg h2, q_up_ne _ _ (by omega)]
      exact h k hk
def q_o16 (V U : q_V) : Prop := ∀ a, a ≠ 16 → U a = V a
theorem q_o16_rfl (V : q_V) : q_o16 V V := fun _ _ => rfl
theorem q_o16_tr {V U W : q_V} (h1 : q_o16 V U) (h2 : q_o16 U W) : q_o16 V W := fun a h => (h2 a h).trans (h1 a h)
abbrev rX0_swap : Room := { frames := 1, cells := 0, slots := 0, locals := 12 }
theorem iX0_swap_X0 : ∀ w ∈ u_ws RX0 TX0 6, w ∈ wsX0_swap := by decide +kernel
set_option maxHeartbeats 4000000 in
set_option maxRecDepth 100000 in
/-- Barter.swap -/
theorem kX0_swap (l : Launch) (σ : q_E) (V : q_V) (G : q_G) {t : List Nat} (ht : t.length ≤ 7) {i j : Nat} (hi : i < t.length) (hj : j < t.length) (hr : q_rw V t) (hb : q_b7 t) : q_Mv l yX0_swap wsX0_swap rX0_swap σ [.ref (σ.2.1 9), .int (nI i), .int (nI j)] V G (fun V' G' => q_o16 V V' ∧ q_rw V' (q_swp t i j) ∧ q_b7 (q_swp t i j) ∧ G = G') 0 0 := by
  refine q_Mv_of (cc := cX0_swap) (maxL := 4) (lv := [(0, .ref (σ.2.1 9)), (1, .int (nI i)), (2, .int (nI j))]) (by decide +kernel) rfl (Nat.le_of_ble_eq_true rfl) rfl ?_
  intro p e s m args below meth c Q C hR
  refine q_aload_n C dX0_swap_0 rfl 0 rfl ?_
  refine q_get C (k := 9) (fi := 3) (.ref (σ.2.1 16)) (by omega) q_enBA rfl iX0_swap_X0 (by decide) (by decide +kernel) rfl rfl dX0_swap_1 ?_
  refine q_iload_n C dX0_swap_4 rfl 1 rfl ?_
  refine q_ialdN C (k := 16) (n := 7) ⟨by decide, by decide, by decide⟩ (by omega) (by decide) dX0_swap_5 ?_
  refine q_istore_n C [(3, .int (V 16 i)), (0, .ref (σ.2.1 9)), (1, .int (nI i)), (2, .int (nI j))] dX0_swap_6 rfl (by decide) rfl ?_
  refine q_aload_n C dX0_swap_7 rfl 1 rfl ?_
  refine q_get C (k := 9) (fi := 3) (.ref (σ.2.1 16)) (by omega) q_enBA rfl iX0_swap_X0 (by decide) (by decide +kernel) rfl rfl dX0_swap_8 ?_
  refine q_iload_n C dX0_swap_11 rfl 2 rfl ?_
  refine q_aload_n C dX0_swap_12 rfl 1 rfl ?_
  refine q_get C (k := 9) (fi := 3) (.ref (σ.2.1 16)) (by omega) q_enBA rfl iX0_swap_X0 (by decide) (by decide +kernel) rfl rfl dX0_swap_13 ?_
  refine q_iload_n C dX0_swap_16 rfl 3 rfl ?_
  refine q_ialdN C (k := 16) (n := 7) ⟨by decide, by decide, by decide⟩ (by omega) (by decide) dX0_swap_17 ?_
  refine q_iastN C (k := 16) (n := 7) ⟨by decide, by decide, by decide⟩ (by omega) (by decide) dX0_swap_18 ?_
  refine q_aload_n C dX0_swap_19 rfl 1 rfl ?_
  refine q_get C (k := 9) (fi := 3) (.ref (σ.2.1 16)) (by omega) q_enBA rfl iX0_swap_X0 (by decide) (by decide +kernel) rfl rfl dX0_swap_20 ?_
  refine q_iload_n C dX0_swap_23 rfl 3 rfl ?_
  refine q_iload_n C dX0_swap_24 rfl 0 rfl ?_
  refine q_iastN C (k := 16) (n := 7) ⟨by decide, by decide, by decide⟩ (by omega) (by decide) dX0_swap_25 ?_
  refine hR _ _ _ _ _ _ ?_ (Nat.le_of_ble_eq_true rfl) (Nat.le_of_ble_eq_true rfl) dX0_swap_26
  exact ⟨fun a ha => by rw [q_up_off _ _ ha, q_up_off _ _ ha], q_rw_swp hr hi hj, q_b7_swp hb hi hj, rfl⟩
abbrev rX0_nextOrder : Room := { frames := 2, cells := 0, slots := 0, locals := 35 }
theorem iX0_nextOrder_X0 : ∀ w ∈ u_ws RX0 TX0 6, w ∈ wsX0_nextOrder := by decide +kernel
set_option maxHeartbeats 4000000 in
set_option maxRecDepth 100000 in
/-- Barter.nextOrder -/
theorem kX0_nextOrder (l : Launch) (σ : q_E) (V : q_V) (G : q_G) {t : List Nat} {u : Nat} (hm : t.length = u + 2) (hr : q_rw V t) (hb : q_b7 t) (hm7 : u + 2 ≤ 7) : q_Mi l yX0_nextOrder wsX0_nextOrder rX0_nextOrder σ [.ref (σ.2.1 9), .int (nI (u + 2))] V G (fun r V' G' => ((q_nxt t = none ∧ (0 : Int32) = r ∧ V = V') ∨ (∃ t', q_nxt t = some t' ∧ (1 : Int32) = r ∧ q_o16 V V' ∧ q_rw V' t' ∧ q_b7 t' ∧ t'.length = u + 2)) ∧ G = G') 0 0 := by
  refine q_Mi_of (cc := cX0_nextOrder) (maxL := 6) (lv := [(0, .ref (σ.2.1 9)), (1, .int (nI (u + 2)))]) (by decide +kernel) rfl (Nat.le_of_ble_eq_true rfl) rfl ?_
  intro p e s m args below meth c Q C hR
  refine q_iload_n C dX0_nextOrder_0 rfl 1 rfl ?_
  refine q_iconst C (nI 2) dX0_nextOrder_1 (by decide) ?_
  refine q_isubN C dX0_nextOrder_2 (by omega) ?_
  refine q_stk (st' := [.int (nI u)]) (congrArg (fun z => Value.int z :: []) (congrArg nI (by omega : u + 2 - 2 = u))) ?_
  refine q_istore_n C [(2, .int (nI u)), (0, .ref (σ.2.1 9)), (1, .int (nI (u + 2)))] dX0_nextOrder_3 rfl (by decide) rfl ?_
  have L_1 : ∀ (nL_1 : Nat) (k : Nat) (x : Int32) (hk : k ≤ u + 1) (hx : (k = 0 ∧ x = -1) ∨ (∃ k9, k = k9 + 1 ∧ x = nI k9)) (hrs : q_rise t (u + 1) = q_rise t k), k < nL_1 → q_W σ p l e rX0_nextOrder s m args below meth c Q 6 0 0 V G [(2, .int x), (0, .ref (σ.2.1 9)), (1, .int (nI (u + 2)))] 4 [] := by
    intro nL_1
    induction nL_1 with
    | zero => intro k x hk hx hrs h; exact absurd h (Nat.not_lt_zero _)
    | succ nL_1 ihL_1 =>
      intro k x hk hx hrs hmL_1
      refine q_iload_n C dX0_nextOrder_4 rfl 0 rfl ?_
      refine q_if_lt C 31 dX0_nextOrder_5 (by decide) (fun c_5 => ?_) (fun c_5 => ?_)
      · skip
        have hk0 : k = 0 := by
          rcases hx with ⟨e, -⟩ | ⟨k9, hk9, e⟩
          · exact e
          · exact absurd c_5 (by rw [e]; exact nI_pos (by omega))
        refine q_iload_n C dX0_nextOrder_31 rfl 0 rfl ?_
        refine q_if_ge C 37 dX0_nextOrder_32 (by decide) (fun c_32 => absurd c_32 (by exact Int32.not_le.mpr c_5)) (fun c_32 => ?_)
        refine q_iconst C (nI 0) dX0_nextOrder_35 (by decide) ?_
        refine hR _ _ _ _ _ _ _ ?_ (by first | rfl | decide) (Nat.le_of_ble_eq_true rfl) (Nat.le_of_ble_eq_true rfl) dX0_nextOrder_36
        exact ⟨Or.inl ⟨by unfold q_nxt; rw [hm, show u + 2 - 1 = u + 1 by omega, hrs, hk0] <;> rfl, rfl, rfl⟩, rfl⟩
      · skip
        obtain ⟨k9, hkk, rfl⟩ := hx.resolve_left (fun z => c_5 (by rw [z.2]; decide))
        refine q_aload_n C dX0_nextOrder_8 rfl 1 rfl ?_
        refine q_get C (k := 9) (fi := 3) (.ref (σ.2.1 16)) (by omega) q_enBA rfl iX0_nextOrder_X0 (by decide) (by decide +kernel) rfl rfl dX0_nextOrder_9 ?_
        refine q_iload_n C dX0_nextOrder_12 rfl 0 rfl ?_
        refine q_ialdN C (k := 16) (n := 7) ⟨by decide, by decide, by decide⟩ (by omega) (by decide) dX0_nextOrder_13 ?_
        refine q_stk (st' := [.int (nI (t.getD k9 0))]) (congrArg (fun z => Value.int z :: []) (hr k9 (by omega))) ?_
        refine q_aload_n C dX0_nextOrder_14 rfl 1 rfl ?_
        refine q_get C (k := 9) (fi := 3) (.ref (σ.2.1 16)) (by omega) q_enBA rfl iX0_nextOrder_X0 (by decide) (by decide +kernel) rfl rfl dX0_nextOrder_15 ?_
        refine q_iload_n C dX0_nextOrder_18 rfl 0 rfl ?_
        refine q_iconst C (nI 1) dX0_nextOrder_19 (by decide) ?_
        refine q_iaddN C dX0_nextOrder_20  ?_
        refine q_ialdN C (k := 16) (n := 7) ⟨by decide, by decide, by decide⟩ (by omega) (by decide) dX0_nextOrder_21 ?_
        refine q_stk (st' := [.int (nI (t.getD (k9 + 1) 0)), .int (nI (t.getD k9 0))]) (congrArg (fun z => Value.int z :: [.int (nI (t.getD k9 0))]) (hr (k9 + 1) (by omega))) ?_
        refine q_icmp_leN C 31 dX0_nextOrder_22 (by decide) (by have := hb k9 (by omega); omega) (by have := hb (k9 + 1) (by omega); omega) (fun c_22 => ?_) (fun c_22 => ?_)
        · skip
          have hri : q_rise t (u + 1) = some k9 := (hrs.trans (congrArg _ hkk)).trans (if_neg (by omega))
          refine q_iload_n C dX0_nextOrder_31 rfl 0 rfl ?_
          refine q_if_ge C 37 dX0_nextOrder_32 (by decide) (fun c_32 => ?_) (fun c_32 => absurd c_32 (by exact fun z => z (nI_pos' (n := k9) (by omega))))
          refine q_iload_n C dX0_nextOrder_37 rfl 2 rfl ?_
          refine q_iconst C (nI 1) dX0_nextOrder_38 (by decide) ?_
          refine q_isubN C dX0_nextOrder_39 (by omega) ?_
          refine q_stk (st' := [.int (nI (u + 1))]) (congrArg (fun z => Value.int z :: []) (congrArg nI (by omega : u + 2 - 1 = u + 1))) ?_
          refine q_istore_n C [(3, .int (nI (u + 1))), (2, .int (nI k9)), (0, .ref (σ.2.1 9)), (1, .int (nI (u + 2)))] dX0_nextOrder_40 rfl (by decide) rfl ?_
          have L_2 : ∀ (nL_2 : Nat) (h : Nat) (hh : h ≤ u) (hkh : k9 ≤ h) (hhs : q_high t k9 (u + 1) = q_high t k9 (h + 1)), h < nL_2 → q_W σ p l e rX0_nextOrder s m args below meth c Q 6 0 0 V G [(3, .int (nI (h + 1))), (0, .ref (σ.2.1 9)), (1, .int (nI (u + 2))), (2, .int (nI k9))] 41 [] := by
            intro nL_2
            induction nL_2 with
            | zero => intro h hh hkh hhs h; exact absurd h (Nat.not_lt_zero _)
            | succ nL_2 ihL_2 =>
              intro h hh hkh hhs hmL_2
              refine q_iload_n C dX0_nextOrder_41 rfl 0 rfl ?_
              have J_3 : ∀ (hhi : q_high t k9 (u + 1) = h + 1), q_W σ p l e rX0_nextOrder s m args below meth c Q 6 0 0 V G [(0, .ref (σ.2.1 9)), (1, .int (nI (u + 2))), (2, .int (nI k9)), (3, .int (nI (h + 1)))] 69 [] := by
                intro hhi
                refine q_aload_n C dX0_nextOrder_69 rfl 0 rfl ?_
                refine q_iload_n C dX0_nextOrder_70 rfl 2 rfl ?_
                refine q_iload_n C dX0_nextOrder_71 rfl 3 rfl ?_
                refine q_callVv C (As := [.int (nI k9), .int (nI (h + 1))]) (rest := []) (k := 9) (by omega) q_enBA rfl rfl (kX0_swap l σ V G (t := t) (by omega) (i := k9) (j := h + 1) (by omega) (by omega) hr hb) 2 gX0_nextOrder_X0_swap rfl rfl rfl (by decide +kernel) ⟨Nat.le_of_ble_eq_true rfl, Nat.le_of_ble_eq_true rfl⟩ dX0_nextOrder_72 rfl (Nat.le_of_ble_eq_true rfl) ⟨Nat.le_of_ble_eq_true rfl, Nat.le_of_ble_eq_true rfl⟩ (fun V_4 G_5 hq_72 => ?_)
                obtain ⟨hU2_72, hr2_72, hb2_72, rfl⟩ := hq_72
                refine q_iload_n C dX0_nextOrder_75 rfl 2 rfl ?_
                refine q_iconst C (nI 1) dX0_nextOrder_76 (by decide) ?_
                refine q_iaddN C dX0_nextOrder_77  ?_
                refine q_istore C [(4, .int (nI (k9 + 1))), (0, .ref (σ.2.1 9)), (1, .int (nI (u + 2))), (2, .int (nI k9)), (3, .int (nI (h + 1)))] dX0_nextOrder_78 (by decide) rfl ?_
                refine q_iload_n C dX0_nextOrder_80 rfl 2 rfl ?_
                refine q_iconst C (nI 1) dX0_nextOrder_81 (by decide) ?_
                refine q_isubN C dX0_nextOrder_82 (by omega) ?_
                refine q_stk (st' := [.int (nI (u + 1))]) (congrArg (fun z => Value.int z :: []) (congrArg nI (by omega : u + 2 - 1 = u + 1))) ?_
                refine q_istore C [(5, .int (nI (u + 1))), (4, .int (nI (k9 + 1))), (0, .ref (σ.2.1 9)), (1, .int (nI (u + 2))), (2, .int (nI k9)), (3, .int (nI (h + 1)))] dX0_nextOrder_83 (by decide) rfl ?_
                have L_6 : ∀ (nL_6 : Nat) (U : q_V) (t3 : List Nat) (a b n : Nat) (hU : q_o16 V U) (hr3 : q_rw U t3) (hb3 : q_b7 t3) (ht3 : t3.length = u + 2) (ha2 : a ≤ u + 2) (hbm : b ≤ u + 1) (hab : b ≤ a + 2 * n) (hrv : q_rv 7 (q_swp t k9 (h + 1)) (k9 + 1) (u + 1) = q_rv n t3 a b), b - a < nL_6 → q_W σ p l e rX0_nextOrder s m args below meth c Q 6 0 0 U G [(4, .int (nI a)), (5, .int (nI b)), (0, .ref (σ.2.1 9)), (1, .int (nI (u + 2))), (2, .int (nI k9)), (3, .int (nI (h + 1)))] 85 [] := by
                  intro nL_6
                  induction nL_6 with
                  | zero => intro U t3 a b n hU hr3 hb3 ht3 ha2 hbm hab hrv h; exact absurd h (Nat.not_lt_zero _)
                  | succ nL_6 ihL_6 =>
                    intro U t3 a b n hU hr3 hb3 ht3 ha2 hbm hab hrv hmL_6
                    refine q_iload C dX0_nextOrder_85 0 rfl ?_
                    refine q_iload C dX0_nextOrder_87 1 rfl ?_
                    refine q_icmp_geN C 109 dX0_nextOrder_89 (by decide) (by omega) (by omega) (fun c_89 => ?_) (fun c_89 => ?_)
                    · skip
                      refine q_iconst C (nI 1) dX0_nextOrder_109 (by decide) ?_
                      refine hR _ _ _ _ _ _ _ ?_ (by first | rfl | decide) (Nat.le_of_ble_eq_true rfl) (Nat.le_of_ble_eq_true rfl) dX0_nextOrder_110
                      have he : q_rv n t3 a b = t3 := by
                        cases n with
                        | zero => rfl
                        | succ n => exact if_neg (by omega)
                      refine ⟨Or.inr ⟨t3, ?_, rfl, hU, hr3, hb3, ht3⟩, rfl⟩
                      unfold q_nxt
                      rw [hm, show u + 2 - 1 = u + 1 by omega, hri, ← he, ← hrv, ← hhi]
                    · skip
                      obtain ⟨n9, hn9⟩ : ∃ n9, n = n9 + 1 := ⟨n - 1, by omega⟩
                      refine q_aload_n C dX0_nextOrder_92 rfl 2 rfl ?_
                      refine q_iload C dX0_nextOrder_93 0 rfl ?_
                      refine q_iload C dX0_nextOrder_95 1 rfl ?_
                      refine q_callVv C (As := [.int (nI a), .int (nI b)]) (rest := []) (k := 9) (by omega) q_enBA rfl rfl (kX0_swap l σ U G (t := t3) (by omega) (i := a) (j := b) (by omega) (by omega) hr3 hb3) 2 gX0_nextOrder_X0_swap rfl rfl rfl (by decide +kernel) ⟨Nat.le_of_ble_eq_true rfl, Nat.le_of_ble_eq_true rfl⟩ dX0_nextOrder_97 rfl (Nat.le_of_ble_eq_true rfl) ⟨Nat.le_of_ble_eq_true rfl, Nat.le_of_ble_eq_true rfl⟩ (fun V_7 G_8 hq_97 => ?_)
                      obtain ⟨hU2_97, hr2_97, hb2_97, rfl⟩ := hq_97
                      refine q_iincN C [(4, .int (nI (a + 1))), (5, .int (nI b)), (0, .ref (σ.2.1 9)), (1, .int (nI (u + 2))), (2, .int (nI k9)), (3, .int (nI (h + 1)))] dX0_nextOrder_100 0 rfl (by decide) rfl ?_
                      refine q_iinc C (nI (b - 1)) [(5, .int (nI (b - 1))), (4, .int (nI (a + 1))), (0, .ref (σ.2.1 9)), (1, .int (nI (u + 2))), (2, .int (nI k9)), (3, .int (nI (h + 1)))] dX0_nextOrder_103 1 rfl (q_pm2 (by omega)) (by decide) rfl ?_
                      refine q_goto C 85 dX0_nextOrder_106 (by decide) ?_
                      refine q_sub (lv' := [(4, .int (nI (a + 1))), (5, .int (nI (b - 1))), (0, .ref (σ.2.1 9)), (1, .int (nI (u + 2))), (2, .int (nI k9)), (3, .int (nI (h + 1)))]) [1, 0, 2, 3, 4, 5] rfl ?_
                      exact ihL_6 _ _ (a + 1) (b - 1) n9 (q_o16_tr hU hU2_97) hr2_97 hb2_97 (by rw [q_swp_len, ht3]) (by omega) (by omega) (by omega) (hrv.trans (by subst hn9; exact if_pos (by omega))) (by omega)
                refine q_sub (lv' := [(4, .int (nI (k9 + 1))), (5, .int (nI (u + 1))), (0, .ref (σ.2.1 9)), (1, .int (nI (u + 2))), (2, .int (nI k9)), (3, .int (nI (h + 1)))]) [1, 0, 2, 3, 4, 5] rfl ?_
                exact L_6 _ _ _ (k9 + 1) (u + 1) 7 hU2_72 hr2_72 hb2_72 (by rw [q_swp_len, hm]) (by omega) (Nat.le_refl _) (by omega) rfl (Nat.lt_succ_self _)
              refine q_iload_n C dX0_nextOrder_42 rfl 3 rfl ?_
              refine q_iconst C (nI 1) dX0_nextOrder_43 (by decide) ?_
              refine q_iaddN C dX0_nextOrder_44  ?_
              refine q_icmp_leN C 69 dX0_nextOrder_45 (by decide) (by omega) (by omega) (fun c_45 => ?_) (fun c_45 => ?_)
              · skip
                refine q_sub (lv' := [(0, .ref (σ.2.1 9)), (1, .int (nI (u + 2))), (2, .int (nI k9)), (3, .int (nI (h + 1)))]) [1, 2, 3, 0] rfl ?_
                exact J_3 (hhs.trans (if_neg (fun z => by omega)))
              · skip
                obtain ⟨h9, hh9⟩ : ∃ h9, h = h9 + 1 := ⟨h - 1, by omega⟩
                refine q_aload_n C dX0_nextOrder_48 rfl 1 rfl ?_
                refine q_get C (k := 9) (fi := 3) (.ref (σ.2.1 16)) (by omega) q_enBA rfl iX0_nextOrder_X0 (by decide) (by decide +kernel) rfl rfl dX0_nextOrder_49 ?_
                refine q_iload_n C dX0_nextOrder_52 rfl 0 rfl ?_
                refine q_ialdN C (k := 16) (n := 7) ⟨by decide, by decide, by decide⟩ (by omega) (by decide) dX0_nextOrder_53 ?_
                refine q_stk (st' := [.int (nI (t.getD (h + 1) 0))]) (congrArg (fun z => Value.int z :: []) (hr (h + 1) (by omega))) ?_
                refine q_aload_n C dX0_nextOrder_54 rfl 1 rfl ?_
                refine q_get C (k := 9) (fi := 3) (.ref (σ.2.1 16)) (by omega) q_enBA rfl iX0_nextOrder_X0 (by decide) (by decide +kernel) rfl rfl dX0_nextOrder_55 ?_
                refine q_iload_n C dX0_nextOrder_58 rfl 3 rfl ?_
                refine q_ialdN C (k := 16) (n := 7) ⟨by decide, by decide, by decide⟩ (by omega) (by decide) dX0_nextOrder_59 ?_
                refine q_stk (st' := [.int (nI (t.getD k9 0)), .int (nI (t.getD (h + 1) 0))]) (congrArg (fun z => Value.int z :: [.int (nI (t.getD (h + 1) 0))]) (hr k9 (by omega))) ?_
                refine q_icmp_geN C 69 dX0_nextOrder_60 (by decide) (by have := hb (h + 1) (by omega); omega) (by have := hb k9 (by omega); omega) (fun c_60 => ?_) (fun c_60 => ?_)
                · skip
                  refine q_sub (lv' := [(0, .ref (σ.2.1 9)), (1, .int (nI (u + 2))), (2, .int (nI k9)), (3, .int (nI (h + 1)))]) [1, 2, 3, 0] rfl ?_
                  exact J_3 (hhs.trans (if_neg (fun z => by omega)))
                · skip
                  refine q_iinc C (nI (h9 + 1)) [(3, .int (nI (h9 + 1))), (0, .ref (σ.2.1 9)), (1, .int (nI (u + 2))), (2, .int (nI k9))] dX0_nextOrder_63 0 rfl (by rw [hh9]; exact q_pm1 (h9 + 1)) (by decide) rfl ?_
                  refine q_goto C 41 dX0_nextOrder_66 (by decide) ?_
                  refine q_sub (lv' := [(3, .int (nI (h9 + 1))), (0, .ref (σ.2.1 9)), (1, .int (nI (u + 2))), (2, .int (nI k9))]) [0, 1, 2, 3] rfl ?_
                  exact ihL_2 h9 (by omega) (by omega) ((hhs.trans (if_pos ⟨by omega, by omega⟩)).trans (congrArg _ hh9)) (by omega)
          refine q_sub (lv' := [(3, .int (nI (u + 1))), (0, .ref (σ.2.1 9)), (1, .int (nI (u + 2))), (2, .int (nI k9))]) [0, 2, 3, 1] rfl ?_
          exact L_2 _ u (Nat.le_refl _) (by omega) rfl (Nat.lt_succ_self _)
        · skip
          refine q_iinc C ((nI k9 + (-1))) [(2, .int ((nI k9 + (-1)))), (0, .ref (σ.2.1 9)), (1, .int (nI (u + 2)))] dX0_nextOrder_25 0 rfl (rfl) (by decide) rfl ?_
          refine q_goto C 4 dX0_nextOrder_28 (by decide) ?_
          refine q_sub (lv' := [(2, .int ((nI k9 + (-1)))), (0, .ref (σ.2.1 9)), (1, .int (nI (u + 2)))]) [0, 1, 2] rfl ?_
          exact ihL_1 k9 _ (by omega) (by cases k9 with | zero => exact Or.inl ⟨rfl, by decide⟩ | succ k8 => exact Or.inr ⟨k8, rfl, pk_m1 k8⟩) ((hrs.trans (congrArg _ hkk)).trans (if_pos (by omega))) (by omega)
  refine q_sub (lv' := [(2, .int (nI u)), (0, .ref (σ.2.1 9)), (1, .int (nI (u + 2)))]) [0, 1, 2] rfl ?_
  exact L_1 _ (u + 1) _ (Nat.le_refl _) (Or.inr ⟨u, rfl, rfl⟩) rfl (Nat.lt_succ_self _)
set_option maxHeartbeats 4000000 in
set_option maxRecDepth 100000 in
/-- Barter.nextOrder of 0 -/
theorem kX0_nextOrder_0 (l : Launch) (σ : q_E) (V : q_V) (G : q_G) {t : List Nat} (hm : t.length = 0) (hr : q_rw V t) (hb : q_b7 t) : q_Mi l yX0_nextOrder wsX0_nextOrder rX0_nextOrder σ [.ref (σ.2.1 9), .int (nI 0)] V G (fun r V' G' => ((q_nxt t = none ∧ (0 : Int32) = r ∧ V = V') ∨ (∃ t', q_nxt t = some t' ∧ (1 : Int32) = r ∧ q_o16 V V' ∧ q_rw V' t' ∧ q_b7 t' ∧ t'.length = 0)) ∧ G = G') 0 0 := by
  refine q_Mi_of (cc := cX0_nextOrder) (maxL := 6) (lv := [(0, .ref (σ.2.1 9)), (1, .int (nI 0))]) (by decide +kernel) rfl (Nat.le_of_ble_eq_true rfl) rfl ?_
  intro p e s m args below meth c Q C hR
  refine q_iload_n C dX0_nextOrder_0 rfl 1 rfl ?_
  refine q_iconst C (nI 2) dX0_nextOrder_1 (by decide) ?_
  refine q_isub C dX0_nextOrder_2 ?_
  refine q_istore_n C [(2, .int (nI 0 - nI 2)), (0, .ref (σ.2.1 9)), (1, .int (nI 0))] dX0_nextOrder_3 rfl (by decide) rfl ?_
  refine q_iload_n C dX0_nextOrder_4 rfl 0 rfl ?_
  refine q_if_lt C 31 dX0_nextOrder_5 (by decide) (fun c_5 => ?_) (fun c_5 => absurd c_5 (by decide))
  refine q_iload_n C dX0_nextOrder_31 rfl 0 rfl ?_
  refine q_if_ge C 37 dX0_nextOrder_32 (by decide) (fun c_32 => absurd c_32 (by decide)) (fun c_32 => ?_)
  refine q_iconst C (nI 0) dX0_nextOrder_35 (by decide) ?_
  refine hR _ _ _ _ _ _ _ ?_ (by first | rfl | decide) (Nat.le_of_ble_eq_true rfl) (Nat.le_of_ble_eq_true rfl) dX0_nextOrder_36
  exact ⟨Or.inl ⟨by unfold q_nxt; rw [hm] <;> rfl, rfl, rfl⟩, rfl⟩
set_option maxHeartbeats 4000000 in
set_option maxRecDepth 100000 in
/-- Barter.nextOrder of 1 -/
theorem kX0_nextOrder_1 (l : Launch) (σ : q_E) (V : q_V) (G : q_G) {t : List Nat} (hm : t.length = 1) (hr : q_rw V t) (hb : q_b7 t) : q_Mi l yX0_nextOrder wsX0_nextOrder rX0_nextOrder σ [.ref (σ.2.1 9), .int (nI 1)] V G (fun r V' G' => ((q_nxt t = none ∧ (0 : Int32) = r ∧ V = V') ∨ (∃ t', q_nxt t = some t' ∧ (1 : Int32) = r ∧ q_o16 V V' ∧ q_rw V' t' ∧ q_b7 t' ∧ t'.length = 1)) ∧ G = G') 0 0 := by
  refine q_Mi_of (cc := cX0_nextOrder) (maxL := 6) (lv := [(0, .ref (σ.2.1 9)), (1, .int (nI 1))]) (by decide +kernel) rfl (Nat.le_of_ble_eq_true rfl) rfl ?_
  intro p e s m args below meth c Q C hR
  refine q_iload_n C dX0_nextOrder_0 rfl 1 rfl ?_
  refine q_iconst C (nI 2) dX0_nextOrder_1 (by decide) ?_
  refine q_isub C dX0_nextOrder_2 ?_
  refine q_istore_n C [(2, .int (nI 1 - nI 2)), (0, .ref (σ.2.1 9)), (1, .int (nI 1))] dX0_nextOrder_3 rfl (by decide) rfl ?_
  refine q_iload_n C dX0_nextOrder_4 rfl 0 rfl ?_
  refine q_if_lt C 31 dX0_nextOrder_5 (by decide) (fun c_5 => ?_) (fun c_5 => absurd c_5 (by decide))
  refine q_iload_n C dX0_nextOrder_31 rfl 0 rfl ?_
  refine q_if_ge C 37 dX0_nextOrder_32 (by decide) (fun c_32 => absurd c_32 (by decide)) (fun c_32 => ?_)
  refine q_iconst C (nI 0) dX0_nextOrder_35 (by decide) ?_
  refine hR _ _ _ _ _ _ _ ?_ (by first | rfl | decide) (Nat.le_of_ble_eq_true rfl) (Nat.le_of_ble_eq_true rfl) dX0_nextOrder_36
  exact ⟨Or.inl ⟨by unfold q_nxt; rw [hm] <;> rfl, rfl, rfl⟩, rfl⟩
