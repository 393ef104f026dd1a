def q_xt (V : q_V) (rd : Nat → Prop) (gt : Nat → Nat → Prop) (r b : List Nat) : Prop := (∀ i, i < r.length → V 16 i = nI (r.getD i 0)) ∧ (∀ a, a < 7 → V 15 a = q_w01 (rd a)) ∧ q_cgt V = gt ∧ V 9 5 = nI b.length ∧ ∀ i, i < b.length → V 17 i = nI (b.getD i 0)
def q_xoff (V U : q_V) : Prop := ∀ a j, a ≠ 16 → a ≠ 17 → ¬ (a = 9 ∧ j = 5) → U a j = V a j
theorem q_xoff_rfl (V : q_V) : q_xoff V V := fun _ _ _ _ _ => rfl
theorem q_xoff_tr {V U W : q_V} (h1 : q_xoff V U) (h2 : q_xoff U W) : q_xoff V W := fun a j x y z => (h2 a j x y z).trans (h1 a j x y z)
theorem q_xoff_take (V : q_V) (n : Nat) (x : Int32) : q_xoff V (q_up (q_cpy V 16 17 n) 9 5 x) := fun a j h1 h2 h3 => (q_up_ne _ _ h3).trans (if_neg (fun z => h2 z.1))
theorem q_xoff_app (U : q_V) (n : Nat) (x : Int32) : q_xoff U (q_up U 16 n x) := fun a j h1 h2 h3 => q_up_ne _ _ (fun z => h1 z.1)
theorem q_xt_take {V : q_V} {rd : Nat → Prop} {gt : Nat → Nat → Prop} {r b : List Nat} {n : Nat} (hrl : r.length = n) (h : q_xt V rd gt r b) : q_xt (q_up (q_cpy V 16 17 n) 9 5 (nI n)) rd gt r r := by
  refine ⟨fun i hi => h.1 i hi, fun a ha => h.2.1 a ha, h.2.2.1, ?_, fun i hi => ?_⟩
  · rw [hrl]; exact q_up_self _ _ _ _
  · exact (if_pos ⟨rfl, by omega⟩ : q_cpy V 16 17 n 17 i = V 16 i).trans (h.1 i hi)
theorem q_xt_app {U : q_V} {rd : Nat → Prop} {gt : Nat → Nat → Prop} {r b : List Nat} {n : Nat} (hrl : r.length = n) (h : q_xt U rd gt r b) (k : Nat) : q_xt (q_up U 16 n (nI k)) rd gt (r ++ [k]) b := by
  refine ⟨fun i hi => ?_, fun a ha => h.2.1 a ha, h.2.2.1, h.2.2.2.1, fun i hi => h.2.2.2.2 i hi⟩
  rw [q_len_app] at hi
  subst hrl
  rcases Nat.lt_or_ge i r.length with q | q
  · rw [q_gd_lt q, q_up_ne _ _ (by omega)]; exact h.1 i q
  · rw [show i = r.length by omega, q_gd_eq]; exact q_up_self _ _ _ _
theorem q_xt_pre {U : q_V} {rd : Nat → Prop} {gt : Nat → Nat → Prop} {r b : List Nat} {k : Nat} (h : q_xt U rd gt (r ++ [k]) b) : q_xt U rd gt r b :=
  ⟨fun i hi => by rw [← q_gd_lt (k := k) hi]; exact h.1 i (by rw [q_len_app]; omega), h.2⟩
theorem q_upb_y {gt : Nat → Nat → Prop} {b r : List Nat} (h1 : 2 ≤ r.length) (h2 : gt (q_la r) (r.getD 0 0)) (h3 : b.length < r.length) : q_upb gt b r = r := q_ite_y ⟨⟨h1, h2⟩, h3⟩
theorem q_upb_n {gt : Nat → Nat → Prop} {b r : List Nat} (h : ¬ (2 ≤ r.length ∧ b.length < r.length ∧ gt (q_la r) (r.getD 0 0))) : q_upb gt b r = b := q_ite_n (fun z => h ⟨z.1.1, z.2, z.1.2⟩)
theorem q_stp_n {rd : Nat → Prop} {gt : Nat → Nat → Prop} {d : Nat} {r b : List Nat} {k : Nat} (h : ¬ q_row rd gt r k) : q_stp rd gt d r b k = b := q_ite_n h
theorem q_stp_y {rd : Nat → Prop} {gt : Nat → Nat → Prop} {d : Nat} {r b : List Nat} {k : Nat} (h : q_row rd gt r k) : q_stp rd gt d r b k = q_ch rd gt d (r ++ [k]) (q_upb gt b (r ++ [k])) := q_ite_y h
theorem q_row_un {rd : Nat → Prop} {gt : Nat → Nat → Prop} {r : List Nat} {k : Nat} (h0 : 0 < r.length) (h : q_row rd gt r k) : rd k ∧ r.getD 0 0 < k ∧ (∀ i, i < r.length → r.getD i 0 ≠ k) ∧ gt (q_la r) k := by
  rcases h.2 with e | e
  · subst e; exact absurd h0 (Nat.lt_irrefl 0)
  · exact ⟨h.1, e⟩
theorem q_chs_skip {rd : Nat → Prop} {gt : Nat → Nat → Prop} {d : Nat} {r b : List Nat} (h0 : 0 < r.length) (h7 : r.getD 0 0 < 7) : q_chs (q_stp rd gt d r) 7 0 b = q_chs (q_stp rd gt d r) (7 - (r.getD 0 0 + 1)) (r.getD 0 0 + 1) b := by
  have h : ∀ k, k ≤ r.getD 0 0 + 1 → q_chs (q_stp rd gt d r) 7 0 b = q_chs (q_stp rd gt d r) (7 - k) k b := by
    intro k
    induction k with
    | zero => intro _; rfl
    | succ k ih =>
      intro hk
      rw [ih (by omega), q_chs_step (by omega), q_stp_n (fun z => by have := (q_row_un h0 z).2.1; omega)]
  exact h _ (Nat.le_refl _)
abbrev rX0_extend_0 : Room := { frames := 2, cells := 0, slots := 0, locals := 200 }
theorem iX0_extend_0_X0 : ∀ w ∈ u_ws RX0 TX0 6, w ∈ wsX0_extend := by decide +kernel
set_option maxHeartbeats 4000000 in
set_option maxRecDepth 100000 in
/-- Barter.extend, a row of 7 -/
theorem kX0_extend_0 (l : Launch) (σ : q_E) (V : q_V) (G : q_G) {rd : Nat → Prop} {gt : Nat → Nat → Prop} {r b : List Nat} (hrl : r.length = 7) (hr7 : ∀ i, i < r.length → r.getD i 0 < 7) (hb7 : b.length ≤ 7) (hxt : q_xt V rd gt r b) : q_Mv l yX0_extend wsX0_extend rX0_extend_0 σ [.ref (σ.2.1 9), .int (nI 7)] V G (fun V' G' => q_xoff V V' ∧ q_xt V' rd gt r (q_ch rd gt 0 r (q_upb gt b r)) ∧ G = G') 0 0 := by
  refine q_Mv_of (cc := cX0_extend) (maxL := 5) (lv := [(0, .ref (σ.2.1 9)), (1, .int (nI 7))]) (by decide +kernel) rfl (Nat.le_of_ble_eq_true rfl) rfl ?_
  intro p e s m args below meth c Q C hR
  have hla7 : q_la r < 7 := hr7 (r.length - 1) (by omega)
  have hhd7 : r.getD 0 0 < 7 := hr7 0 (by omega)
  refine q_iload_n C dX0_extend_0 rfl 1 rfl ?_
  refine q_iconst C (nI 1) dX0_extend_1 (by decide) ?_
  refine q_icmp_ltN C 11 dX0_extend_2 (by decide) (by omega) (by omega) (fun c_2 => absurd c_2 (by omega)) (fun c_2 => ?_)
  refine q_iload_n C dX0_extend_5 rfl 1 rfl ?_
  refine q_bipush C (nI 7) dX0_extend_6 (by decide) ?_
  refine q_icmp_leN C 12 dX0_extend_8 (by decide) (by omega) (by omega) (fun c_8 => ?_) (fun c_8 => absurd c_8 (by omega))
  refine q_aload_n C dX0_extend_12 rfl 0 rfl ?_
  refine q_get C (k := 9) (fi := 3) (.ref (σ.2.1 16)) (by omega) q_enBA rfl iX0_extend_0_X0 (by decide) (by decide +kernel) rfl rfl dX0_extend_13 ?_
  refine q_astore_n C [(2, .ref (σ.2.1 16)), (0, .ref (σ.2.1 9)), (1, .int (nI 7))] dX0_extend_16 rfl (by decide) rfl ?_
  refine q_aload_n C dX0_extend_17 rfl 0 rfl ?_
  refine q_iload_n C dX0_extend_18 rfl 2 rfl ?_
  refine q_iconst C (nI 1) dX0_extend_19 (by decide) ?_
  refine q_isubN C dX0_extend_20 (by omega) ?_
  refine q_ialdN C (k := 16) (n := 7) ⟨by decide, by decide, by decide⟩ (by omega) (by decide) dX0_extend_21 ?_
  refine q_stk (st' := [.int (nI (q_la r))]) (congrArg (fun z => Value.int z :: []) ((hxt.1 6 (by omega)).trans (by rw [q_la, hrl]))) ?_
  refine q_istore_n C [(3, .int (nI (q_la r))), (2, .ref (σ.2.1 16)), (0, .ref (σ.2.1 9)), (1, .int (nI 7))] dX0_extend_22 rfl (by decide) rfl ?_
  have J_1 : ∀ (U : q_V) (hU : q_xoff V U) (hxt : q_xt U rd gt r (q_upb gt b r)), q_W σ p l e rX0_extend_0 s m args below meth c Q 5 0 0 U G [(0, .ref (σ.2.1 9)), (1, .int (nI 7)), (2, .ref (σ.2.1 16)), (3, .int (nI (q_la r)))] 63 [] := by
    intro U hU hxt
    refine q_aload_n C dX0_extend_63 rfl 2 rfl ?_
    refine q_iconst C (nI 0) dX0_extend_64 (by decide) ?_
    refine q_ialdN C (k := 16) (n := 7) ⟨by decide, by decide, by decide⟩ (by omega) (by decide) dX0_extend_65 ?_
    refine q_stk (st' := [.int (nI (r.getD 0 0))]) (congrArg (fun z => Value.int z :: []) (hxt.1 0 (by omega))) ?_
    refine q_iconst C (nI 1) dX0_extend_66 (by decide) ?_
    refine q_iaddN C dX0_extend_67  ?_
    refine q_istore C [(4, .int (nI ((r.getD 0 0) + 1))), (0, .ref (σ.2.1 9)), (1, .int (nI 7)), (2, .ref (σ.2.1 16)), (3, .int (nI (q_la r)))] dX0_extend_68 (by decide) rfl ?_
    refine q_iload C dX0_extend_70 0 rfl ?_
    refine q_bipush C (nI 7) dX0_extend_72 (by decide) ?_
    refine q_icmp_geN C 131 dX0_extend_74 (by decide) (by omega) (by omega) (fun c_74 => ?_) (fun c_74 => ?_)
    · skip
      refine hR _ _ _ _ _ _ ?_ (Nat.le_of_ble_eq_true rfl) (Nat.le_of_ble_eq_true rfl) dX0_extend_131
      exact ⟨hU, hxt, rfl⟩
    · skip
      refine q_iload_n C dX0_extend_77 rfl 2 rfl ?_
      refine q_bipush C (nI 7) dX0_extend_78 (by decide) ?_
      refine q_icmp_geN C 131 dX0_extend_80 (by decide) (by omega) (by omega) (fun c_80 => ?_) (fun c_80 => absurd c_80 (by omega))
      refine hR _ _ _ _ _ _ ?_ (Nat.le_of_ble_eq_true rfl) (Nat.le_of_ble_eq_true rfl) dX0_extend_131
      exact ⟨hU, hxt, rfl⟩
  refine q_iload_n C dX0_extend_23 rfl 3 rfl ?_
  refine q_iconst C (nI 1) dX0_extend_24 (by decide) ?_
  refine q_icmp_leN C 63 dX0_extend_25 (by decide) (by omega) (by omega) (fun c_25 => absurd c_25 (by omega)) (fun c_25 => ?_)
  refine q_iload_n C dX0_extend_28 rfl 3 rfl ?_
  refine q_aload_n C dX0_extend_29 rfl 2 rfl ?_
  refine q_get C (k := 9) (fi := 5) (.int (nI b.length)) (by omega) q_enBA rfl iX0_extend_0_X0 (by decide) (by decide +kernel) rfl (by rw [← hxt.2.2.2.1]; rfl) dX0_extend_30 ?_
  refine q_icmp_leN C 63 dX0_extend_33 (by decide) (by omega) (by omega) (fun c_33 => ?_) (fun c_33 => ?_)
  · skip
    refine q_sub (lv' := [(0, .ref (σ.2.1 9)), (1, .int (nI 7)), (2, .ref (σ.2.1 16)), (3, .int (nI (q_la r)))]) [2, 3, 1, 0] rfl ?_
    exact J_1 _ (q_xoff_rfl V) (by rw [q_upb_n (by first | exact fun z => by omega | exact fun z => b_41 (by rw [hxt.2.2.1]; exact z.2.2))]; exact hxt)
  · skip
    refine q_aload_n C dX0_extend_36 rfl 2 rfl ?_
    refine q_iload_n C dX0_extend_37 rfl 0 rfl ?_
    refine q_aload_n C dX0_extend_38 rfl 1 rfl ?_
    refine q_iconst C (nI 0) dX0_extend_39 (by decide) ?_
    refine q_ialdN C (k := 16) (n := 7) ⟨by decide, by decide, by decide⟩ (by omega) (by decide) dX0_extend_40 ?_
    refine q_stk (st' := [.int (nI (r.getD 0 0)), .int (nI (q_la r)), .ref (σ.2.1 9)]) (congrArg (fun z => Value.int z :: [.int (nI (q_la r)), .ref (σ.2.1 9)]) (hxt.1 0 (by omega))) ?_
    refine q_callVi C (As := [.int (nI (q_la r)), .int (nI (r.getD 0 0))]) (rest := []) (k := 9) (by omega) q_enBA rfl rfl (kX0_getsFrom l σ V G (a := q_la r) (b := r.getD 0 0) (by omega) (by omega)) 2 gX0_extend_X0_getsFrom rfl rfl rfl (by decide +kernel) ⟨Nat.le_of_ble_eq_true rfl, Nat.le_of_ble_eq_true rfl⟩ dX0_extend_41 rfl (Nat.le_of_ble_eq_true rfl) ⟨Nat.le_of_ble_eq_true rfl, Nat.le_of_ble_eq_true rfl⟩ (fun r_41 V_2 G_3 hq_41 => ?_)
    obtain ⟨hs_41, rfl, rfl⟩ := hq_41
    refine q_if_eq C 63 dX0_extend_44 (by decide) (fun c_44 => ?_) (fun c_44 => ?_)
    · skip
      have b_41 := (q_is_eq hs_41).mp c_44
      refine q_sub (lv' := [(0, .ref (σ.2.1 9)), (1, .int (nI 7)), (2, .ref (σ.2.1 16)), (3, .int (nI (q_la r)))]) [2, 3, 1, 0] rfl ?_
      exact J_1 _ (q_xoff_rfl V) (by rw [q_upb_n (by first | exact fun z => by omega | exact fun z => b_41 (by rw [hxt.2.2.1]; exact z.2.2))]; exact hxt)
    · skip
      have b_41 := (q_is_ne hs_41).mp c_44
      refine q_aload_n C dX0_extend_47 rfl 1 rfl ?_
      refine q_iconst C (nI 0) dX0_extend_48 (by decide) ?_
      refine q_aload_n C dX0_extend_49 rfl 2 rfl ?_
      refine q_get C (k := 9) (fi := 4) (.ref (σ.2.1 17)) (by omega) q_enBA rfl iX0_extend_0_X0 (by decide) (by decide +kernel) rfl rfl dX0_extend_50 ?_
      refine q_iconst C (nI 0) dX0_extend_53 (by decide) ?_
      refine q_iload_n C dX0_extend_54 rfl 3 rfl ?_
      refine q_copyI C (k1 := 16) (k2 := 17) (n1 := 7) (n2 := 7) (n := 7) ⟨by decide, by decide, by decide⟩ ⟨by decide, by decide, by decide⟩ (by omega) (by omega) (by omega) (by decide +kernel) (by decide +kernel) (by decide +kernel) (by decide +kernel) (Nat.le_of_ble_eq_true rfl) (Nat.le_of_ble_eq_true rfl) dX0_extend_55 ?_
      refine q_aload_n C dX0_extend_58 rfl 2 rfl ?_
      refine q_iload_n C dX0_extend_59 rfl 3 rfl ?_
      refine q_put C (k := 9) (fi := 5) tyX0 tyX0_ok nmX0 (by omega) q_enBA rfl iX0_extend_0_X0 (by decide) (by decide +kernel) rfl rfl (by decide +kernel) (Nat.le_of_ble_eq_true rfl) (q_enBA |>.trans (by simp [q_up])) dX0_extend_60 ?_
      refine q_sub (lv' := [(0, .ref (σ.2.1 9)), (1, .int (nI 7)), (2, .ref (σ.2.1 16)), (3, .int (nI (q_la r)))]) [2, 3, 1, 0] rfl ?_
      exact J_1 _ (q_xoff_take V 7 _) (by rw [q_upb_y (by omega) (hxt.2.2.1 ▸ b_41) (by omega)]; exact q_xt_take hrl hxt)
abbrev rX0_extend_1 : Room := { frames := 3, cells := 0, slots := 0, locals := 224 }
theorem iX0_extend_1_X0 : ∀ w ∈ u_ws RX0 TX0 6, w ∈ wsX0_extend := by decide +kernel
set_option maxHeartbeats 4000000 in
set_option maxRecDepth 100000 in
/-- Barter.extend, a row of 6 -/
theorem kX0_extend_1 (l : Launch) (σ : q_E) (V : q_V) (G : q_G) {rd : Nat → Prop} {gt : Nat → Nat → Prop} {r b : List Nat} (hrl : r.length = 6) (hr7 : ∀ i, i < r.length → r.getD i 0 < 7) (hb7 : b.length ≤ 7) (hxt : q_xt V rd gt r b) : q_Mv l yX0_extend wsX0_extend rX0_extend_1 σ [.ref (σ.2.1 9), .int (nI 6)] V G (fun V' G' => q_xoff V V' ∧ q_xt V' rd gt r (q_ch rd gt 1 r (q_upb gt b r)) ∧ G = G') 0 0 := by
  refine q_Mv_of (cc := cX0_extend) (maxL := 5) (lv := [(0, .ref (σ.2.1 9)), (1, .int (nI 6))]) (by decide +kernel) rfl (Nat.le_of_ble_eq_true rfl) rfl ?_
  intro p e s m args below meth c Q C hR
  have hla7 : q_la r < 7 := hr7 (r.length - 1) (by omega)
  have hhd7 : r.getD 0 0 < 7 := hr7 0 (by omega)
  refine q_iload_n C dX0_extend_0 rfl 1 rfl ?_
  refine q_iconst C (nI 1) dX0_extend_1 (by decide) ?_
  refine q_icmp_ltN C 11 dX0_extend_2 (by decide) (by omega) (by omega) (fun c_2 => absurd c_2 (by omega)) (fun c_2 => ?_)
  refine q_iload_n C dX0_extend_5 rfl 1 rfl ?_
  refine q_bipush C (nI 7) dX0_extend_6 (by decide) ?_
  refine q_icmp_leN C 12 dX0_extend_8 (by decide) (by omega) (by omega) (fun c_8 => ?_) (fun c_8 => absurd c_8 (by omega))
  refine q_aload_n C dX0_extend_12 rfl 0 rfl ?_
  refine q_get C (k := 9) (fi := 3) (.ref (σ.2.1 16)) (by omega) q_enBA rfl iX0_extend_1_X0 (by decide) (by decide +kernel) rfl rfl dX0_extend_13 ?_
  refine q_astore_n C [(2, .ref (σ.2.1 16)), (0, .ref (σ.2.1 9)), (1, .int (nI 6))] dX0_extend_16 rfl (by decide) rfl ?_
  refine q_aload_n C dX0_extend_17 rfl 0 rfl ?_
  refine q_iload_n C dX0_extend_18 rfl 2 rfl ?_
  refine q_iconst C (nI 1) dX0_extend_19 (by decide) ?_
  refine q_isubN C dX0_extend_20 (by omega) ?_
  refine q_ialdN C (k := 16) (n := 7) ⟨by decide, by decide, by decide⟩ (by omega) (by decide) dX0_extend_21 ?_
  refine q_stk (st' := [.int (nI (q_la r))]) (congrArg (fun z => Value.int z :: []) ((hxt.1 5 (by omega)).trans (by rw [q_la, hrl]))) ?_
  refine q_istore_n C [(3, .int (nI (q_la r))), (2, .ref (σ.2.1 16)), (0, .ref (σ.2.1 9)), (1, .int (nI 6))] dX0_extend_22 rfl (by decide) rfl ?_
  have J_1 : ∀ (U : q_V) (hU : q_xoff V U) (hxt : q_xt U rd gt r (q_upb gt b r)), q_W σ p l e rX0_extend_1 s m args below meth c Q 5 0 0 U G [(0, .ref (σ.2.1 9)), (1, .int (nI 6)), (2, .ref (σ.2.1 16)), (3, .int (nI (q_la r)))] 63 [] := by
    intro U hU hxt
    refine q_aload_n C dX0_extend_63 rfl 2 rfl ?_
    refine q_iconst C (nI 0) dX0_extend_64 (by decide) ?_
    refine q_ialdN C (k := 16) (n := 7) ⟨by decide, by decide, by decide⟩ (by omega) (by decide) dX0_extend_65 ?_
    refine q_stk (st' := [.int (nI (r.getD 0 0))]) (congrArg (fun z => Value.int z :: []) (hxt.1 0 (by omega))) ?_
    refine q_iconst C (nI 1) dX0_extend_66 (by decide) ?_
    refine q_iaddN C dX0_extend_67  ?_
    refine q_istore C [(4, .int (nI ((r.getD 0 0) + 1))), (0, .ref (σ.2.1 9)), (1, .int (nI 6)), (2, .ref (σ.2.1 16)), (3, .int (nI (q_la r)))] dX0_extend_68 (by decide) rfl ?_
    have L_2 : ∀ (nL_2 : Nat) (U : q_V) (j : Nat) (b' : List Nat) (hU : q_xoff V U) (hxt : q_xt U rd gt r b') (hb7' : b'.length ≤ 7) (hj : j ≤ 7) (hj0 : r.getD 0 0 < j) (hch : q_ch rd gt 1 r (q_upb gt b r) = q_chs (q_stp rd gt 0 r) (7 - j) j b'), 7 - j < nL_2 → q_W σ p l e rX0_extend_1 s m args below meth c Q 5 0 0 U G [(4, .int (nI j)), (0, .ref (σ.2.1 9)), (1, .int (nI 6)), (2, .ref (σ.2.1 16)), (3, .int (nI (q_la r)))] 70 [] := by
      intro nL_2
      induction nL_2 with
      | zero => intro U j b' hU hxt hb7' hj hj0 hch h; exact absurd h (Nat.not_lt_zero _)
      | succ nL_2 ihL_2 =>
        intro U j b' hU hxt hb7' hj hj0 hch hmL_2
        refine q_iload C dX0_extend_70 0 rfl ?_
        refine q_bipush C (nI 7) dX0_extend_72 (by decide) ?_
        refine q_icmp_geN C 131 dX0_extend_74 (by decide) (by omega) (by omega) (fun c_74 => ?_) (fun c_74 => ?_)
        · skip
          refine hR _ _ _ _ _ _ ?_ (Nat.le_of_ble_eq_true rfl) (Nat.le_of_ble_eq_true rfl) dX0_extend_131
          obtain rfl : j = 7 := by omega
          rw [hch]
          exact ⟨hU, hxt, rfl⟩
        · skip
          refine q_iload_n C dX0_extend_77 rfl 2 rfl ?_
          refine q_bipush C (nI 7) dX0_extend_78 (by decide) ?_
          refine q_icmp_geN C 131 dX0_extend_80 (by decide) (by omega) (by omega) (fun c_80 => absurd c_80 (by omega)) (fun c_80 => ?_)
          refine q_aload_n C dX0_extend_83 rfl 1 rfl ?_
          refine q_get C (k := 9) (fi := 2) (.ref (σ.2.1 15)) (by omega) q_enBA rfl iX0_extend_1_X0 (by decide) (by decide +kernel) rfl rfl dX0_extend_84 ?_
          refine q_iload C dX0_extend_87 0 rfl ?_
          refine q_zaldN C (by omega) dX0_extend_89 ?_
          refine q_if_eq C 125 dX0_extend_90 (by decide) (fun c_90 => ?_) (fun c_90 => ?_)
          · skip
            have hrdj : ¬ rd j := fun z => by rw [hxt.2.1 j (by omega), q_w01_y z] at c_90; exact absurd c_90 (by decide)
            refine q_iincN C [(4, .int (nI (j + 1))), (0, .ref (σ.2.1 9)), (1, .int (nI 6)), (2, .ref (σ.2.1 16)), (3, .int (nI (q_la r)))] dX0_extend_125 0 rfl (by decide) rfl ?_
            refine q_goto C 70 dX0_extend_128 (by decide) ?_
            refine q_sub (lv' := [(4, .int (nI (j + 1))), (0, .ref (σ.2.1 9)), (1, .int (nI 6)), (2, .ref (σ.2.1 16)), (3, .int (nI (q_la r)))]) [0, 1, 2, 3, 4] rfl ?_
            exact ihL_2 _ (j + 1) _ hU hxt hb7' (by omega) (by omega) ((hch.trans (q_chs_step (by omega))).trans (congrArg (q_chs _ _ _) (q_stp_n (fun z => by have z9 := q_row_un (by omega) z; first | exact hrdj z9.1 | exact b_97 (by rw [hxt.2.2.1]; exact z9.2.2.2) | (obtain ⟨i, hi, e⟩ := b_107; exact z9.2.2.1 i hi e))))) (by omega)
          · skip
            have hrdj : rd j := Classical.byContradiction fun z => c_90 (by rw [hxt.2.1 j (by omega), q_w01_n z])
            refine q_aload_n C dX0_extend_93 rfl 1 rfl ?_
            refine q_iload_n C dX0_extend_94 rfl 4 rfl ?_
            refine q_iload C dX0_extend_95 0 rfl ?_
            refine q_callVi C (As := [.int (nI (q_la r)), .int (nI j)]) (rest := []) (k := 9) (by omega) q_enBA rfl rfl (kX0_getsFrom l σ U G (a := q_la r) (b := j) (by omega) (by omega)) 2 gX0_extend_X0_getsFrom rfl rfl rfl (by decide +kernel) ⟨Nat.le_of_ble_eq_true rfl, Nat.le_of_ble_eq_true rfl⟩ dX0_extend_97 rfl (Nat.le_of_ble_eq_true rfl) ⟨Nat.le_of_ble_eq_true rfl, Nat.le_of_ble_eq_true rfl⟩ (fun r_97 V_3 G_4 hq_97 => ?_)
            obtain ⟨hs_97, rfl, rfl⟩ := hq_97
            refine q_if_eq C 125 dX0_extend_100 (by decide) (fun c_100 => ?_) (fun c_100 => ?_)
            · skip
              have b_97 := (q_is_eq hs_97).mp c_100
              refine q_iincN C [(4, .int (nI (j + 1))), (0, .ref (σ.2.1 9)), (1, .int (nI 6)), (2, .ref (σ.2.1 16)), (3, .int (nI (q_la r)))] dX0_extend_125 0 rfl (by decide) rfl ?_
              refine q_goto C 70 dX0_extend_128 (by decide) ?_
              refine q_sub (lv' := [(4, .int (nI (j + 1))), (0, .ref (σ.2.1 9)), (1, .int (nI 6)), (2, .ref (σ.2.1 16)), (3, .int (nI (q_la r)))]) [0, 1, 2, 3, 4] rfl ?_
              exact ihL_2 _ (j + 1) _ hU hxt hb7' (by omega) (by omega) ((hch.trans (q_chs_step (by omega))).trans (congrArg (q_chs _ _ _) (q_stp_n (fun z => by have z9 := q_row_un (by omega) z; first | exact hrdj z9.1 | exact b_97 (by rw [hxt.2.2.1]; exact z9.2.2.2) | (obtain ⟨i, hi, e⟩ := b_107; exact z9.2.2.1 i hi e))))) (by omega)
            · skip
              have b_97 := (q_is_ne hs_97).mp c_100
              refine q_aload_n C dX0_extend_103 rfl 1 rfl ?_
              refine q_iload C dX0_extend_104 0 rfl ?_
              refine q_iload_n C dX0_extend_106 rfl 2 rfl ?_
              refine q_callVi C (As := [.int (nI j), .int (nI 6)]) (rest := []) (k := 9) (by omega) q_enBA rfl rfl (kX0_isInRow l σ U G (rs := r) (k := j) hrl (by omega) (by omega) hr7 hxt.1) 2 gX0_extend_X0_isInRow rfl rfl rfl (by decide +kernel) ⟨Nat.le_of_ble_eq_true rfl, Nat.le_of_ble_eq_true rfl⟩ dX0_extend_107 rfl (Nat.le_of_ble_eq_true rfl) ⟨Nat.le_of_ble_eq_true rfl, Nat.le_of_ble_eq_true rfl⟩ (fun r_107 V_5 G_6 hq_107 => ?_)
              obtain ⟨hs_107, rfl, rfl⟩ := hq_107
              refine q_if_ne C 125 dX0_extend_110 (by decide) (fun c_110 => ?_) (fun c_110 => ?_)
              · skip
                have b_107 := (q_is_ne hs_107).mp c_110
                refine q_iincN C [(4, .int (nI (j + 1))), (0, .ref (σ.2.1 9)), (1, .int (nI 6)), (2, .ref (σ.2.1 16)), (3, .int (nI (q_la r)))] dX0_extend_125 0 rfl (by decide) rfl ?_
                refine q_goto C 70 dX0_extend_128 (by decide) ?_
                refine q_sub (lv' := [(4, .int (nI (j + 1))), (0, .ref (σ.2.1 9)), (1, .int (nI 6)), (2, .ref (σ.2.1 16)), (3, .int (nI (q_la r)))]) [0, 1, 2, 3, 4] rfl ?_
                exact ihL_2 _ (j + 1) _ hU hxt hb7' (by omega) (by omega) ((hch.trans (q_chs_step (by omega))).trans (congrArg (q_chs _ _ _) (q_stp_n (fun z => by have z9 := q_row_un (by omega) z; first | exact hrdj z9.1 | exact b_97 (by rw [hxt.2.2.1]; exact z9.2.2.2) | (obtain ⟨i, hi, e⟩ := b_107; exact z9.2.2.1 i hi e))))) (by omega)
              · skip
                have b_107 := (q_is_eq hs_107).mp c_110
                refine q_aload_n C dX0_extend_113 rfl 3 rfl ?_
                refine q_iload_n C dX0_extend_114 rfl 2 rfl ?_
                refine q_iload C dX0_extend_115 0 rfl ?_
                refine q_iastN C (k := 16) (n := 7) ⟨by decide, by decide, by decide⟩ (by omega) (by decide) dX0_extend_117 ?_
                refine q_aload_n C dX0_extend_118 rfl 1 rfl ?_
                refine q_iload_n C dX0_extend_119 rfl 2 rfl ?_
                refine q_iconst C (nI 1) dX0_extend_120 (by decide) ?_
                refine q_iaddN C dX0_extend_121  ?_
                refine q_callSv C (As := [.ref (σ.2.1 9), .int (nI (6 + 1))]) (rest := []) (kX0_extend_0 l σ (q_up U 16 6 (nI j)) G (r := r ++ [j]) (b := b') (by rw [q_len_app, hrl]) (q_app_lt hr7 (by omega)) hb7' (q_xt_app hrl hxt j)) 2 gX0_extend_X0_extend rfl rfl rfl (by decide +kernel) ⟨Nat.le_of_ble_eq_true rfl, Nat.le_of_ble_eq_true rfl⟩ dX0_extend_122 rfl (Nat.le_of_ble_eq_true rfl) ⟨Nat.le_of_ble_eq_true rfl, Nat.le_of_ble_eq_true rfl⟩ (fun V_7 G_8 hq_122 => ?_)
                obtain ⟨hU2_122, hx2_122, rfl⟩ := hq_122
                refine q_iincN C [(4, .int (nI (j + 1))), (0, .ref (σ.2.1 9)), (1, .int (nI 6)), (2, .ref (σ.2.1 16)), (3, .int (nI (q_la r)))] dX0_extend_125 0 rfl (by decide) rfl ?_
                refine q_goto C 70 dX0_extend_128 (by decide) ?_
                refine q_sub (lv' := [(4, .int (nI (j + 1))), (0, .ref (σ.2.1 9)), (1, .int (nI 6)), (2, .ref (σ.2.1 16)), (3, .int (nI (q_la r)))]) [0, 1, 2, 3, 4] rfl ?_
                exact ihL_2 _ (j + 1) _ (q_xoff_tr (q_xoff_tr hU (q_xoff_app U _ _)) hU2_122) (q_xt_pre hx2_122) (q_ch_len rd gt _ _ _ (by rw [q_len_app]; omega) (q_upb_len hb7' (by rw [q_len_app]; omega))) (by omega) (by omega) ((hch.trans (q_chs_step (by omega))).trans (congrArg (q_chs _ _ _) (q_stp_y ⟨hrdj, Or.inr ⟨hj0, fun i hi e => b_107 ⟨i, hi, e⟩, hxt.2.2.1 ▸ b_97⟩⟩))) (by omega)
    refine q_sub (lv' := [(4, .int (nI ((r.getD 0 0) + 1))), (0, .ref (σ.2.1 9)), (1, .int (nI 6)), (2, .ref (σ.2.1 16)), (3, .int (nI (q_la r)))]) [0, 1, 2, 3, 4] rfl ?_
    exact L_2 _ U (r.getD 0 0 + 1) _ hU hxt (q_upb_len hb7 (by omega)) (by omega) (by omega) (q_chs_skip (by omega) hhd7) (Nat.lt_succ_self _)
  refine q_iload_n C dX0_extend_23 rfl 3 rfl ?_
  refine q_iconst C (nI 1) dX0_extend_24 (by decide) ?_
  refine q_icmp_leN C 63 dX0_extend_25 (by decide) (by omega) (by omega) (fun c_25 => absurd c_25 (by omega)) (fun c_25 => ?_)
  refine q_iload_n C dX0_extend_28 rfl 3 rfl ?_
  refine q_aload_n C dX0_extend_29 rfl 2 rfl ?_
  refine q_get C (k := 9) (fi := 5) (.int (nI b.length)) (by omega) q_enBA rfl iX0_extend_1_X0 (by decide) (by decide +kernel) rfl (by rw [← hxt.2.2.2.1]; rfl) dX0_extend_30 ?_
  refine q_icmp_leN C 63 dX0_extend_33 (by decide) (by omega) (by omega) (fun c_33 => ?_) (fun c_33 => ?_)
  · skip
    refine q_sub (lv' := [(0, .ref (σ.2.1 9)), (1, .int (nI 6)), (2, .ref (σ.2.1 16)), (3, .int (nI (q_la r)))]) [2, 3, 1, 0] rfl ?_
    exact J_1 _ (q_xoff_rfl V) (by rw [q_upb_n (by first | exact fun z => by omega | exact fun z => b_41 (by rw [hxt.2.2.1]; exact z.2.2))]; exact hxt)
  · skip
    refine q_aload_n C dX0_extend_36 rfl 2 rfl ?_
    refine q_iload_n C dX0_extend_37 rfl 0 rfl ?_
    refine q_aload_n C dX0_extend_38 rfl 1 rfl ?_
    refine q_iconst C (nI 0) dX0_extend_39 (by decide) ?_
    refine q_ialdN C (k := 16) (n := 7) ⟨by decide, by decide, by decide⟩ (by omega) (by decide) dX0_extend_40 ?_
    refine q_stk (st' := [.int (nI (r.getD 0 0)), .int (nI (q_la r)), .ref (σ.2.1 9)]) (congrArg (fun z => Value.int z :: [.int (nI (q_la r)), .ref (σ.2.1 9)]) (hxt.1 0 (by omega))) ?_
    refine q_callVi C (As := [.int (nI (q_la r)), .int (nI (r.getD 0 0))]) (rest := []) (k := 9) (by omega) q_enBA rfl rfl (kX0_getsFrom l σ V G (a := q_la r) (b := r.getD 0 0) (by omega) (by omega)) 2 gX0_extend_X0_getsFrom rfl rfl rfl (by decide +kernel) ⟨Nat.le_of_ble_eq_true rfl, Nat.le_of_ble_eq_true rfl⟩ dX0_extend_41 rfl (Nat.le_of_ble_eq_true rfl) ⟨Nat.le_of_ble_eq_true rfl, Nat.le_of_ble_eq_true rfl⟩ (fun r_41 V_9 G_10 hq_41 => ?_)
    obtain ⟨hs_41, rfl, rfl⟩ := hq_41
    refine q_if_eq C 63 dX0_extend_44 (by decide) (fun c_44 => ?_) (fun c_44 => ?_)
    · skip
      have b_41 := (q_is_eq hs_41).mp c_44
      refine q_sub (lv' := [(0, .ref (σ.2.1 9)), (1, .int (nI 6)), (2, .ref (σ.2.1 16)), (3, .int (nI (q_la r)))]) [2, 3, 1, 0] rfl ?_
      exact J_1 _ (q_xoff_rfl V) (by rw [q_upb_n (by first | exact fun z => by omega | exact fun z => b_41 (by rw [hxt.2.2.1]; exact z.2.2))]; exact hxt)
    · skip
      have b_41 := (q_is_ne hs_41).mp c_44
      refine q_aload_n C dX0_extend_47 rfl 1 rfl ?_
      refine q_iconst C (nI 0) dX0_extend_48 (by decide) ?_
      refine q_aload_n C dX0_extend_49 rfl 2 rfl ?_
      refine q_get C (k := 9) (fi := 4) (.ref (σ.2.1 17)) (by omega) q_enBA rfl iX0_extend_1_X0 (by decide) (by decide +kernel) rfl rfl dX0_extend_50 ?_
      refine q_iconst C (nI 0) dX0_extend_53 (by decide) ?_
      refine q_iload_n C dX0_extend_54 rfl 3 rfl ?_
      refine q_copyI C (k1 := 16) (k2 := 17) (n1 := 7) (n2 := 7) (n := 6) ⟨by decide, by decide, by decide⟩ ⟨by decide, by decide, by decide⟩ (by omega) (by omega) (by omega) (by decide +kernel) (by decide +kernel) (by decide +kernel) (by decide +kernel) (Nat.le_of_ble_eq_true rfl) (Nat.le_of_ble_eq_true rfl) dX0_extend_55 ?_
      refine q_aload_n C dX0_extend_58 rfl 2 rfl ?_
      refine q_iload_n C dX0_extend_59 rfl 3 rfl ?_
      refine q_put C (k := 9) (fi := 5) tyX0 tyX0_ok nmX0 (by omega) q_enBA rfl iX0_extend_1_X0 (by decide) (by decide +kernel) rfl rfl (by decide +kernel) (Nat.le_of_ble_eq_true rfl) (q_enBA |>.trans (by simp [q_up])) dX0_extend_60 ?_
      refine q_sub (lv' := [(0, .ref (σ.2.1 9)), (1, .int (nI 6)), (2, .ref (σ.2.1 16)), (3, .int (nI (q_la r)))]) [2, 3, 1, 0] rfl ?_
      exact J_1 _ (q_xoff_take V 6 _) (by rw [q_upb_y (by omega) (hxt.2.2.1 ▸ b_41) (by omega)]; exact q_xt_take hrl hxt)
abbrev rX0_extend_2 : Room := { frames := 4, cells := 0, slots := 0, locals := 248 }
theorem iX0_extend_2_X0 : ∀ w ∈ u_ws RX0 TX0 6, w ∈ wsX0_extend := by decide +kernel
set_option maxHeartbeats 4000000 in
set_option maxRecDepth 100000 in
/-- Barter.extend, a row of 5 -/
theorem kX0_extend_2 (l : Launch) (σ : q_E) (V : q_V) (G : q_G) {rd : Nat → Prop} {gt : Nat → Nat → Prop} {r b : List Nat} (hrl : r.length = 5) (hr7 : ∀ i, i < r.length → r.getD i 0 < 7) (hb7 : b.length ≤ 7) (hxt : q_xt V rd gt r b) : q_Mv l yX0_extend wsX0_extend rX0_extend_2 σ [.ref (σ.2.1 9), .int (nI 5)] V G (fun V' G' => q_xoff V V' ∧ q_xt V' rd gt r (q_ch rd gt 2 r (q_upb gt b r)) ∧ G = G') 0 0 := by
  refine q_Mv_of (cc := cX0_extend) (maxL := 5) (lv := [(0, .ref (σ.2.1 9)), (1, .int (nI 5))]) (by decide +kernel) rfl (Nat.le_of_ble_eq_true rfl) rfl ?_
  intro p e s m args below meth c Q C hR
  have hla7 : q_la r < 7 := hr7 (r.length - 1) (by omega)
  have hhd7 : r.getD 0 0 < 7 := hr7 0 (by omega)
  refine q_iload_n C dX0_extend_0 rfl 1 rfl ?_
  refine q_iconst C (nI 1) dX0_extend_1 (by decide) ?_
  refine q_icmp_ltN C 11 dX0_extend_2 (by decide) (by omega) (by omega) (fun c_2 => absurd c_2 (by omega)) (fun c_2 => ?_)
  refine q_iload_n C dX0_extend_5 rfl 1 rfl ?_
  refine q_bipush C (nI 7) dX0_extend_6 (by decide) ?_
  refine q_icmp_leN C 12 dX0_extend_8 (by decide) (by omega) (by omega) (fun c_8 => ?_) (fun c_8 => absurd c_8 (by omega))
  refine q_aload_n C dX0_extend_12 rfl 0 rfl ?_
  refine q_get C (k := 9) (fi := 3) (.ref (σ.2.1 16)) (by omega) q_enBA rfl iX0_extend_2_X0 (by decide) (by decide +kernel) rfl rfl dX0_extend_13 ?_
  refine q_astore_n C [(2, .ref (σ.2.1 16)), (0, .ref (σ.2.1 9)), (1, .int (nI 5))] dX0_extend_16 rfl (by decide) rfl ?_
  refine q_aload_n C dX0_extend_17 rfl 0 rfl ?_
  refine q_iload_n C dX0_extend_18 rfl 2 rfl ?_
  refine q_iconst C (nI 1) dX0_extend_19 (by decide) ?_
  refine q_isubN C dX0_extend_20 (by omega) ?_
  refine q_ialdN C (k := 16) (n := 7) ⟨by decide, by decide, by decide⟩ (by omega) (by decide) dX0_extend_21 ?_
  refine q_stk (st' := [.int (nI (q_la r))]) (congrArg (fun z => Value.int z :: []) ((hxt.1 4 (by omega)).trans (by rw [q_la, hrl]))) ?_
  refine q_istore_n C [(3, .int (nI (q_la r))), (2, .ref (σ.2.1 16)), (0, .ref (σ.2.1 9)), (1, .int (nI 5))] dX0_extend_22 rfl (by decide) rfl ?_
  have J_1 : ∀ (U : q_V) (hU : q_xoff V U) (hxt : q_xt U rd gt r (q_upb gt b r)), q_W σ p l e rX0_extend_2 s m args below meth c Q 5 0 0 U G [(0, .ref (σ.2.1 9)), (1, .int (nI 5)), (2, .ref (σ.2.1 16)), (3, .int (nI (q_la r)))] 63 [] := by
    intro U hU hxt
    refine q_aload_n C dX0_extend_63 rfl 2 rfl ?_
    refine q_iconst C (nI 0) dX0_extend_64 (by decide) ?_
    refine q_ialdN C (k := 16) (n := 7) ⟨by decide, by decide, by decide⟩ (by omega) (by decide) dX0_extend_65 ?_
    refine q_stk (st' := [.int (nI (r.getD 0 0))]) (congrArg (fun z => Value.int z :: []) (hxt.1 0 (by omega))) ?_
    refine q_iconst C (nI 1) dX0_extend_66 (by decide) ?_
    refine q_iaddN C dX0_extend_67  ?_
    refine q_istore C [(4, .int (nI ((r.getD 0 0) + 1))), (0, .ref (σ.2.1 9)), (1, .int (nI 5)), (2, .ref (σ.2.1 16)), (3, .int (nI (q_la r)))] dX0_extend_68 (by decide) rfl ?_
    have L_2 : ∀ (nL_2 : Nat) (U : q_V) (j : Nat) (b' : List Nat) (hU : q_xoff V U) (hxt : q_xt U rd gt r b') (hb7' : b'.length ≤ 7) (hj : j ≤ 7) (hj0 : r.getD 0 0 < j) (hch : q_ch rd gt 2 r (q_upb gt b r) = q_chs (q_stp rd gt 1 r) (7 - j) j b'), 7 - j < nL_2 → q_W σ p l e rX0_extend_2 s m args below meth c Q 5 0 0 U G [(4, .int (nI j)), (0, .ref (σ.2.1 9)), (1, .int (nI 5)), (2, .ref (σ.2.1 16)), (3, .int (nI (q_la r)))] 70 [] := by
      intro nL_2
      induction nL_2 with
      | zero => intro U j b' hU hxt hb7' hj hj0 hch h; exact absurd h (Nat.not_lt_zero _)
      | succ nL_2 ihL_2 =>
        intro U j b' hU hxt hb7' hj hj0 hch hmL_2
        refine q_iload C dX0_extend_70 0 rfl ?_
        refine q_bipush C (nI 7) dX0_extend_72 (by decide) ?_
        refine q_icmp_geN C 131 dX0_extend_74 (by decide) (by omega) (by omega) (fun c_74 => ?_) (fun c_74 => ?_)
        · skip
          refine hR _ _ _ _ _ _ ?_ (Nat.le_of_ble_eq_true rfl) (Nat.le_of_ble_eq_true rfl) dX0_extend_131
          obtain rfl : j = 7 := by omega
          rw [hch]
          exact ⟨hU, hxt, rfl⟩
        · skip
          refine q_iload_n C dX0_extend_77 rfl 2 rfl ?_
          refine q_bipush C (nI 7) dX0_extend_78 (by decide) ?_
          refine q_icmp_geN C 131 dX0_extend_80 (by decide) (by omega) (by omega) (fun c_80 => absurd c_80 (by omega)) (fun c_80 => ?_)
          refine q_aload_n C dX0_extend_83 rfl 1 rfl ?_
          refine q_get C (k := 9) (fi := 2) (.ref (σ.2.1 15)) (by omega) q_enBA rfl iX0_extend_2_X0 (by decide) (by decide +kernel) rfl rfl dX0_extend_84 ?_
          refine q_iload C dX0_extend_87 0 rfl ?_
          refine q_zaldN C (by omega) dX0_extend_89 ?_
          refine q_if_eq C 125 dX0_extend_90 (by decide) (fun c_90 => ?_) (fun c_90 => ?_)
          · skip
            have hrdj : ¬ rd j := fun z => by rw [hxt.2.1 j (by omega), q_w01_y z] at c_90; exact absurd c_90 (by decide)
            refine q_iincN C [(4, .int (nI (j + 1))), (0, .ref (σ.2.1 9)), (1, .int (nI 5)), (2, .ref (σ.2.1 16)), (3, .int (nI (q_la r)))] dX0_extend_125 0 rfl (by decide) rfl ?_
            refine q_goto C 70 dX0_extend_128 (by decide) ?_
            refine q_sub (lv' := [(4, .int (nI (j + 1))), (0, .ref (σ.2.1 9)), (1, .int (nI 5)), (2, .ref (σ.2.1 16)), (3, .int (nI (q_la r)))]) [0, 1, 2, 3, 4] rfl ?_
            exact ihL_2 _ (j + 1) _ hU hxt hb7' (by omega) (by omega) ((hch.trans (q_chs_step (by omega))).trans (congrArg (q_chs _ _ _) (q_stp_n (fun z => by have z9 := q_row_un (by omega) z; first | exact hrdj z9.1 | exact b_97 (by rw [hxt.2.2.1]; exact z9.2.2.2) | (obtain ⟨i, hi, e⟩ := b_107; exact z9.2.2.1 i hi e))))) (by omega)
          · skip
            have hrdj : rd j := Classical.byContradiction fun z => c_90 (by rw [hxt.2.1 j (by omega), q_w01_n z])
            refine q_aload_n C dX0_extend_93 rfl 1 rfl ?_
            refine q_iload_n C dX0_extend_94 rfl 4 rfl ?_
            refine q_iload C dX0_extend_95 0 rfl ?_
            refine q_callVi C (As := [.int (nI (q_la r)), .int (nI j)]) (rest := []) (k := 9) (by omega) q_enBA rfl rfl (kX0_getsFrom l σ U G (a := q_la r) (b := j) (by omega) (by omega)) 2 gX0_extend_X0_getsFrom rfl rfl rfl (by decide +kernel) ⟨Nat.le_of_ble_eq_true rfl, Nat.le_of_ble_eq_true rfl⟩ dX0_extend_97 rfl (Nat.le_of_ble_eq_true rfl) ⟨Nat.le_of_ble_eq_true rfl, Nat.le_of_ble_eq_true rfl⟩ (fun r_97 V_3 G_4 hq_97 => ?_)
            obtain ⟨hs_97, rfl, rfl⟩ := hq_97
            refine q_if_eq C 125 dX0_extend_100 (by decide) (fun c_100 => ?_) (fun c_100 => ?_)
            · skip
              have b_97 := (q_is_eq hs_97).mp c_100
              refine q_iincN C [(4, .int (nI (j + 1))), (0, .ref (σ.2.1 9)), (1, .int (nI 5)), (2, .ref (σ.2.1 16)), (3, .int (nI (q_la r)))] dX0_extend_125 0 rfl (by decide) rfl ?_
              refine q_goto C 70 dX0_extend_128 (by decide) ?_
              refine q_sub (lv' := [(4, .int (nI (j + 1))), (0, .ref (σ.2.1 9)), (1, .int (nI 5)), (2, .ref (σ.2.1 16)), (3, .int (nI (q_la r)))]) [0, 1, 2, 3, 4] rfl ?_
              exact ihL_2 _ (j + 1) _ hU hxt hb7' (by omega) (by omega) ((hch.trans (q_chs_step (by omega))).trans (congrArg (q_chs _ _ _) (q_stp_n (fun z => by have z9 := q_row_un (by omega) z; first | exact hrdj z9.1 | exact b_97 (by rw [hxt.2.2.1]; exact z9.2.2.2) | (obtain ⟨i, hi, e⟩ := b_107; exact z9.2.2.1 i hi e))))) (by omega)
            · skip
              have b_97 := (q_is_ne hs_97).mp c_100
              refine q_aload_n C dX0_extend_103 rfl 1 rfl ?_
              refine q_iload C dX0_extend_104 0 rfl ?_
              refine q_iload_n C dX0_extend_106 rfl 2 rfl ?_
              refine q_callVi C (As := [.int (nI j), .int (nI 5)]) (rest := []) (k := 9) (by omega) q_enBA rfl rfl (kX0_isInRow l σ U G (rs := r) (k := j) hrl (by omega) (by omega) hr7 hxt.1) 2 gX0_extend_X0_isInRow rfl rfl rfl (by decide +kernel) ⟨Nat.le_of_ble_eq_true rfl, Nat.le_of_ble_eq_true rfl⟩ dX0_extend_107 rfl (Nat.le_of_ble_eq_true rfl) ⟨Nat.le_of_ble_eq_true rfl, Nat.le_of_ble_eq_true rfl⟩ (fun r_107 V_5 G_6 hq_107 => ?_)
              obtain ⟨hs_107, rfl, rfl⟩ := hq_107
              refine q_if_ne C 125 dX0_extend_110 (by decide) (fun c_110 => ?_) (fun c_110 => ?_)
              · skip
                have b_107 := (q_is_ne hs_107).mp c_110
                refine q_iincN C [(4, .int (nI (j + 1))), (0, .ref (σ.2.1 9)), (1, .int (nI 5)), (2, .ref (σ.2.1 16)), (3, .int (nI (q_la r)))] dX0_extend_125 0 rfl (by decide) rfl ?_
                refine q_goto C 70 dX0_extend_128 (by decide) ?_
                refine q_sub (lv' := [(4, .int (nI (j + 1))), (0, .ref (σ.2.1 9)), (1, .int (nI 5)), (2, .ref (σ.2.1 16)), (3, .int (nI (q_la r)))]) [0, 1, 2, 3, 4] rfl ?_
                exact ihL_2 _ (j + 1) _ hU hxt hb7' (by omega) (by omega) ((hch.trans (q_chs_step (by omega))).trans (congrArg (q_chs _ _ _) (q_stp_n (fun z => by have z9 := q_row_un (by omega) z; first | exact hrdj z9.1 | exact b_97 (by rw [hxt.2.2.1]; exact z9.2.2.2) | (obtain ⟨i, hi, e⟩ := b_107; exact z9.2.2.1 i hi e))))) (by omega)
              · skip
                have b_107 := (q_is_eq hs_107).mp c_110
                refine q_aload_n C dX0_extend_113 rfl 3 rfl ?_
                refine q_iload_n C dX0_extend_114 rfl 2 rfl ?_
                refine q_iload C dX0_extend_115 0 rfl ?_
                refine q_iastN C (k := 16) (n := 7) ⟨by decide, by decide, by decide⟩ (by omega) (by decide) dX0_extend_117 ?_
                refine q_aload_n C dX0_extend_118 rfl 1 rfl ?_
                refine q_iload_n C dX0_extend_119 rfl 2 rfl ?_
                refine q_iconst C (nI 1) dX0_extend_120 (by decide) ?_
                refine q_iaddN C dX0_extend_121  ?_
                refine q_callSv C (As := [.ref (σ.2.1 9), .int (nI (5 + 1))]) (rest := []) (kX0_extend_1 l σ (q_up U 16 5 (nI j)) G (r := r ++ [j]) (b := b') (by rw [q_len_app, hrl]) (q_app_lt hr7 (by omega)) hb7' (q_xt_app hrl hxt j)) 2 gX0_extend_X0_extend rfl rfl rfl (by decide +kernel) ⟨Nat.le_of_ble_eq_true rfl, Nat.le_of_ble_eq_true rfl⟩ dX0_extend_122 rfl (Nat.le_of_ble_eq_true rfl) ⟨Nat.le_of_ble_eq_true rfl, Nat.le_of_ble_eq_true rfl⟩ (fun V_7 G_8 hq_122 => ?_)
                obtain ⟨hU2_122, hx2_122, rfl⟩ := hq_122
                refine q_iincN C [(4, .int (nI (j + 1))), (0, .ref (σ.2.1 9)), (1, .int (nI 5)), (2, .ref (σ.2.1 16)), (3, .int (nI (q_la r)))] dX0_extend_125 0 rfl (by decide) rfl ?_
                refine q_goto C 70 dX0_extend_128 (by decide) ?_
                refine q_sub (lv' := [(4, .int (nI (j + 1))), (0, .ref (σ.2.1 9)), (1, .int (nI 5)), (2, .ref (σ.2.1 16)), (3, .int (nI (q_la r)))]) [0, 1, 2, 3, 4] rfl ?_
                exact ihL_2 _ (j + 1) _ (q_xoff_tr (q_xoff_tr hU (q_xoff_app U _ _)) hU2_122) (q_xt_pre hx2_122) (q_ch_len rd gt _ _ _ (by rw [q_len_app]; omega) (q_upb_len hb7' (by rw [q_len_app]; omega))) (by omega) (by omega) ((hch.trans (q_chs_step (by omega))).trans (congrArg (q_chs _ _ _) (q_stp_y ⟨hrdj, Or.inr ⟨hj0, fun i hi e => b_107 ⟨i, hi, e⟩, hxt.2.2.1 ▸ b_97⟩⟩))) (by omega)
    refine q_sub (lv' := [(4, .int (nI ((r.getD 0 0) + 1))), (0, .ref (σ.2.1 9)), (1, .int (nI 5)), (2, .ref (σ.2.1 16)), (3, .int (nI (q_la r)))]) [0, 1, 2, 3, 4] rfl ?_
    exact L_2 _ U (r.getD 0 0 + 1) _ hU hxt (q_upb_len hb7 (by omega)) (by omega) (by omega) (q_chs_skip (by omega) hhd7) (Nat.lt_succ_self _)
  refine q_iload_n C dX0_extend_23 rfl 3 rfl ?_
  refine q_iconst C (nI 1) dX0_extend_24 (by decide) ?_
  refine q_icmp_leN C 63 dX0_extend_25 (by decide) (by omega) (by omega) (fun c_25 => absurd c_25 (by omega)) (fun c_25 => ?_)
  refine q_iload_n C dX0_extend_28 rfl 3 rfl ?_
  refine q_aload_n C dX0_extend_29 rfl 2 rfl ?_
  refine q_get C (k := 9) (fi := 5) (.int (nI b.length)) (by omega) q_enBA rfl iX0_extend_2_X0 (by decide) (by decide +kernel) rfl (by rw [← hxt.2.2.2.1]; rfl) dX0_extend_30 ?_
  refine q_icmp_leN C 63 dX0_extend_33 (by decide) (by omega) (by omega) (fun c_33 => ?_) (fun c_33 => ?_)
  · skip
    refine q_sub (lv' := [(0, .ref (σ.2.1 9)), (1, .int (nI 5)), (2, .ref (σ.2.1 16)), (3, .int (nI (q_la r)))]) [2, 3, 1, 0] rfl ?_
    exact J_1 _ (q_xoff_rfl V) (by rw [q_upb_n (by first | exact fun z => by omega | exact fun z => b_41 (by rw [hxt.2.2.1]; exact z.2.2))]; exact hxt)
  · skip
    refine q_aload_n C dX0_extend_36 rfl 2 rfl ?_
    refine q_iload_n C dX0_extend_37 rfl 0 rfl ?_
    refine q_aload_n C dX0_extend_38 rfl 1 rfl ?_
    refine q_iconst C (nI 0) dX0_extend_39 (by decide) ?_
    refine q_ialdN C (k := 16) (n := 7) ⟨by decide, by decide, by decide⟩ (by omega) (by decide) dX0_extend_40 ?_
    refine q_stk (st' := [.int (nI (r.getD 0 0)), .int (nI (q_la r)), .ref (σ.2.1 9)]) (congrArg (fun z => Value.int z :: [.int (nI (q_la r)), .ref (σ.2.1 9)]) (hxt.1 0 (by omega))) ?_
    refine q_callVi C (As := [.int (nI (q_la r)), .int (nI (r.getD 0 0))]) (rest := []) (k := 9) (by omega) q_enBA rfl rfl (kX0_getsFrom l σ V G (a := q_la r) (b := r.getD 0 0) (by omega) (by omega)) 2 gX0_extend_X0_getsFrom rfl rfl rfl (by decide +kernel) ⟨Nat.le_of_ble_eq_true rfl, Nat.le_of_ble_eq_true rfl⟩ dX0_extend_41 rfl (Nat.le_of_ble_eq_true rfl) ⟨Nat.le_of_ble_eq_true rfl, Nat.le_of_ble_eq_true rfl⟩ (fun r_41 V_9 G_10 hq_41 => ?_)
    obtain ⟨hs_41, rfl, rfl⟩ := hq_41
    refine q_if_eq C 63 dX0_extend_44 (by decide) (fun c_44 => ?_) (fun c_44 => ?_)
    · skip
      have b_41 := (q_is_eq hs_41).mp c_44
      refine q_sub (lv' := [(0, .ref (σ.2.1 9)), (1, .int (nI 5)), (2, .ref (σ.2.1 16)), (3, .int (nI (q_la r)))]) [2, 3, 1, 0] rfl ?_
      exact J_1 _ (q_xoff_rfl V) (by rw [q_upb_n (by first | exact fun z => by omega | exact fun z => b_41 (by rw [hxt.2.2.1]; exact z.2.2))]; exact hxt)
    · skip
      have b_41 := (q_is_ne hs_41).mp c_44
      refine q_aload_n C dX0_extend_47 rfl 1 rfl ?_
      refine q_iconst C (nI 0) dX0_extend_48 (by decide) ?_
      refine q_aload_n C dX0_extend_49 rfl 2 rfl ?_
      refine q_get C (k := 9) (fi := 4) (.ref (σ.2.1 17)) (by omega) q_enBA rfl iX0_extend_2_X0 (by decide) (by decide +kernel) rfl rfl dX0_extend_50 ?_
      refine q_iconst C (nI 0) dX0_extend_53 (by decide) ?_
      refine q_iload_n C dX0_extend_54 rfl 3 rfl ?_
      refine q_copyI C (k1 := 16) (k2 := 17) (n1 := 7) (n2 := 7) (n := 5) ⟨by decide, by decide, by decide⟩ ⟨by decide, by decide, by decide⟩ (by omega) (by omega) (by omega) (by decide +kernel) (by decide +kernel) (by decide +kernel) (by decide +kernel) (Nat.le_of_ble_eq_true rfl) (Nat.le_of_ble_eq_true rfl) dX0_extend_55 ?_
      refine q_aload_n C dX0_extend_58 rfl 2 rfl ?_
      refine q_iload_n C dX0_extend_59 rfl 3 rfl ?_
      refine q_put C (k := 9) (fi := 5) tyX0 tyX0_ok nmX0 (by omega) q_enBA rfl iX0_extend_2_X0 (by decide) (by decide +kernel) rfl rfl (by decide +kernel) (Nat.le_of_ble_eq_true rfl) (q_enBA |>.trans (by simp [q_up])) dX0_extend_60 ?_
      refine q_sub (lv' := [(0, .ref (σ.2.1 9)), (1, .int (nI 5)), (2, .ref (σ.2.1 16)), (3, .int (nI (q_la r)))]) [2, 3, 1, 0] rfl ?_
      exact J_1 _ (q_xoff_take V 5 _) (by rw [q_upb_y (by omega) (hxt.2.2.1 ▸ b_41) (by omega)]; exact q_xt_take hrl hxt)
abbrev rX0_extend_3 : Room := { frames := 5, cells := 0, slots := 0, locals := 272 }
theorem iX0_extend_3_X0 : ∀ w ∈ u_ws RX0 TX0 6, w ∈ wsX0_extend := by decide +kernel
set_option maxHeartbeats 4000000 in
set_option maxRecDepth 100000 in
/-- Barter.extend, a row of 4 -/
theorem kX0_extend_3 (l : Launch) (σ : q_E) (V : q_V) (G : q_G) {rd : Nat → Prop} {gt : Nat → Nat → Prop} {r b : List Nat} (hrl : r.length = 4) (hr7 : ∀ i, i < r.length → r.getD i 0 < 7) (hb7 : b.length ≤ 7) (hxt : q_xt V rd gt r b) : q_Mv l yX0_extend wsX0_extend rX0_extend_3 σ [.ref (σ.2.1 9), .int (nI 4)] V G (fun V' G' => q_xoff V V' ∧ q_xt V' rd gt r (q_ch rd gt 3 r (q_upb gt b r)) ∧ G = G') 0 0 := by
  refine q_Mv_of (cc := cX0_extend) (maxL := 5) (lv := [(0, .ref (σ.2.1 9)), (1, .int (nI 4))]) (by decide +kernel) rfl (Nat.le_of_ble_eq_true rfl) rfl ?_
  intro p e s m args below meth c Q C hR
  have hla7 : q_la r < 7 := hr7 (r.length - 1) (by omega)
  have hhd7 : r.getD 0 0 < 7 := hr7 0 (by omega)
  refine q_iload_n C dX0_extend_0 rfl 1 rfl ?_
  refine q_iconst C (nI 1) dX0_extend_1 (by decide) ?_
  refine q_icmp_ltN C 11 dX0_extend_2 (by decide) (by omega) (by omega) (fun c_2 => absurd c_2 (by omega)) (fun c_2 => ?_)
  refine q_iload_n C dX0_extend_5 rfl 1 rfl ?_
  refine q_bipush C (nI 7) dX0_extend_6 (by decide) ?_
  refine q_icmp_leN C 12 dX0_extend_8 (by decide) (by omega) (by omega) (fun c_8 => ?_) (fun c_8 => absurd c_8 (by omega))
  refine q_aload_n C dX0_extend_12 rfl 0 rfl ?_
  refine q_get C (k := 9) (fi := 3) (.ref (σ.2.1 16)) (by omega) q_enBA rfl iX0_extend_3_X0 (by decide) (by decide +kernel) rfl rfl dX0_extend_13 ?_
  refine q_astore_n C [(2, .ref (σ.2.1 16)), (0, .ref (σ.2.1 9)), (1, .int (nI 4))] dX0_extend_16 rfl (by decide) rfl ?_
  refine q_aload_n C dX0_extend_17 rfl 0 rfl ?_
  refine q_iload_n C dX0_extend_18 rfl 2 rfl ?_
  refine q_iconst C (nI 1) dX0_extend_19 (by decide) ?_
  refine q_isubN C dX0_extend_20 (by omega) ?_
  refine q_ialdN C (k := 16) (n := 7) ⟨by decide, by decide, by decide⟩ (by omega) (by decide) dX0_extend_21 ?_
  refine q_stk (st' := [.int (nI (q_la r))]) (congrArg (fun z => Value.int z :: []) ((hxt.1 3 (by omega)).trans (by rw [q_la, hrl]))) ?_
  refine q_istore_n C [(3, .int (nI (q_la r))), (2, .ref (σ.2.1 16)), (0, .ref (σ.2.1 9)), (1, .int (nI 4))] dX0_extend_22 rfl (by decide) rfl ?_
  have J_1 : ∀ (U : q_V) (hU : q_xoff V U) (hxt : q_xt U rd gt r (q_upb gt b r)), q_W σ p l e rX0_extend_3 s m args below meth c Q 5 0 0 U G [(0, .ref (σ.2.1 9)), (1, .int (nI 4)), (2, .ref (σ.2.1 16)), (3, .int (nI (q_la r)))] 63 [] := by
    intro U hU hxt
    refine q_aload_n C dX0_extend_63 rfl 2 rfl ?_
    refine q_iconst C (nI 0) dX0_extend_64 (by decide) ?_
    refine q_ialdN C (k := 16) (n := 7) ⟨by decide, by decide, by decide⟩ (by omega) (by decide) dX0_extend_65 ?_
    refine q_stk (st' := [.int (nI (r.getD 0 0))]) (congrArg (fun z => Value.int z :: []) (hxt.1 0 (by omega))) ?_
    refine q_iconst C (nI 1) dX0_extend_66 (by decide) ?_
    refine q_iaddN C dX0_extend_67  ?_
    refine q_istore C [(4, .int (nI ((r.getD 0 0) + 1))), (0, .ref (σ.2.1 9)), (1, .int (nI 4)), (2, .ref (σ.2.1 16)), (3, .int (nI (q_la r)))] dX0_extend_68 (by decide) rfl ?_
    have L_2 : ∀ (nL_2 : Nat) (U : q_V) (j : Nat) (b' : List Nat) (hU : q_xoff V U) (hxt : q_xt U rd gt r b') (hb7' : b'.length ≤ 7) (hj : j ≤ 7) (hj0 : r.getD 0 0 < j) (hch : q_ch rd gt 3 r (q_upb gt b r) = q_chs (q_stp rd gt 2 r) (7 - j) j b'), 7 - j < nL_2 → q_W σ p l e rX0_extend_3 s m args below meth c Q 5 0 0 U G [(4, .int (nI j)), (0, .ref (σ.2.1 9)), (1, .int (nI 4)), (2, .ref (σ.2.1 16)), (3, .int (nI (q_la r)))] 70 [] := by
      intro nL_2
      induction nL_2 with
      | zero => intro U j b' hU hxt hb7' hj hj0 hch h; exact absurd h (Nat.not_lt_zero _)
      | succ nL_2 ihL_2 =>
        intro U j b' hU hxt hb7' hj hj0 hch hmL_2
        refine q_iload C dX0_extend_70 0 rfl ?_
        refine q_bipush C (nI 7) dX0_extend_72 (by decide) ?_
        refine q_icmp_geN C 131 dX0_extend_74 (by decide) (by omega) (by omega) (fun c_74 => ?_) (fun c_74 => ?_)
        · skip
          refine hR _ _ _ _ _ _ ?_ (Nat.le_of_ble_eq_true rfl) (Nat.le_of_ble_eq_true rfl) dX0_extend_131
          obtain rfl : j = 7 := by omega
          rw [hch]
          exact ⟨hU, hxt, rfl⟩
        · skip
          refine q_iload_n C dX0_extend_77 rfl 2 rfl ?_
          refine q_bipush C (nI 7) dX0_extend_78 (by decide) ?_
          refine q_icmp_geN C 131 dX0_extend_80 (by decide) (by omega) (by omega) (fun c_80 => absurd c_80 (by omega)) (fun c_80 => ?_)
          refine q_aload_n C dX0_extend_83 rfl 1 rfl ?_
          refine q_get C (k := 9) (fi := 2) (.ref (σ.2.1 15)) (by omega) q_enBA rfl iX0_extend_3_X0 (by decide) (by decide +kernel) rfl rfl dX0_extend_84 ?_
          refine q_iload C dX0_extend_87 0 rfl ?_
          refine q_zaldN C (by omega) dX0_extend_89 ?_
          refine q_if_eq C 125 dX0_extend_90 (by decide) (fun c_90 => ?_) (fun c_90 => ?_)
          · skip
            have hrdj : ¬ rd j := fun z => by rw [hxt.2.1 j (by omega), q_w01_y z] at c_90; exact absurd c_90 (by decide)
            refine q_iincN C [(4, .int (nI (j + 1))), (0, .ref (σ.2.1 9)), (1, .int (nI 4)), (2, .ref (σ.2.1 16)), (3, .int (nI (q_la r)))] dX0_extend_125 0 rfl (by decide) rfl ?_
            refine q_goto C 70 dX0_extend_128 (by decide) ?_
            refine q_sub (lv' := [(4, .int (nI (j + 1))), (0, .ref (σ.2.1 9)), (1, .int (nI 4)), (2, .ref (σ.2.1 16)), (3, .int (nI (q_la r)))]) [0, 1, 2, 3, 4] rfl ?_
            exact ihL_2 _ (j + 1) _ hU hxt hb7' (by omega) (by omega) ((hch.trans (q_chs_step (by omega))).trans (congrArg (q_chs _ _ _) (q_stp_n (fun z => by have z9 := q_row_un (by omega) z; first | exact hrdj z9.1 | exact b_97 (by rw [hxt.2.2.1]; exact z9.2.2.2) | (obtain ⟨i, hi, e⟩ := b_107; exact z9.2.2.1 i hi e))))) (by omega)
          · skip
            have hrdj : rd j := Classical.byContradiction fun z => c_90 (by rw [hxt.2.1 j (by omega), q_w01_n z])
            refine q_aload_n C dX0_extend_93 rfl 1 rfl ?_
            refine q_iload_n C dX0_extend_94 rfl 4 rfl ?_
            refine q_iload C dX0_extend_95 0 rfl ?_
            refine q_callVi C (As := [.int (nI (q_la r)), .int (nI j)]) (rest := []) (k := 9) (by omega) q_enBA rfl rfl (kX0_getsFrom l σ U G (a := q_la r) (b := j) (by omega) (by omega)) 2 gX0_extend_X0_getsFrom rfl rfl rfl (by decide +kernel) ⟨Nat.le_of_ble_eq_true rfl, Nat.le_of_ble_eq_true rfl⟩ dX0_extend_97 rfl (Nat.le_of_ble_eq_true rfl) ⟨Nat.le_of_ble_eq_true rfl, Nat.le_of_ble_eq_true rfl⟩ (fun r_97 V_3 G_4 hq_97 => ?_)
            obtain ⟨hs_97, rfl, rfl⟩ := hq_97
            refine q_if_eq C 125 dX0_extend_100 (by decide) (fun c_100 => ?_) (fun c_100 => ?_)
            · skip
              have b_97 := (q_is_eq hs_97).mp c_100
              refine q_iincN C [(4, .int (nI (j + 1))), (0, .ref (σ.2.1 9)), (1, .int (nI 4)), (2, .ref (σ.2.1 16)), (3, .int (nI (q_la r)))] dX0_extend_125 0 rfl (by decide) rfl ?_
              refine q_goto C 70 dX0_extend_128 (by decide) ?_
              refine q_sub (lv' := [(4, .int (nI (j + 1))), (0, .ref (σ.2.1 9)), (1, .int (nI 4)), (2, .ref (σ.2.1 16)), (3, .int (nI (q_la r)))]) [0, 1, 2, 3, 4] rfl ?_
              exact ihL_2 _ (j + 1) _ hU hxt hb7' (by omega) (by omega) ((hch.trans (q_chs_step (by omega))).trans (congrArg (q_chs _ _ _) (q_stp_n (fun z => by have z9 := q_row_un (by omega) z; first | exact hrdj z9.1 | exact b_97 (by rw [hxt.2.2.1]; exact z9.2.2.2) | (obtain ⟨i, hi, e⟩ := b_107; exact z9.2.2.1 i hi e))))) (by omega)
            · skip
              have b_97 := (q_is_ne hs_97).mp c_100
              refine q_aload_n C dX0_extend_103 rfl 1 rfl ?_
              refine q_iload C dX0_extend_104 0 rfl ?_
              refine q_iload_n C dX0_extend_106 rfl 2 rfl ?_
              refine q_callVi C (As := [.int (nI j), .int (nI 4)]) (rest := []) (k := 9) (by omega) q_enBA rfl rfl (kX0_isInRow l σ U G (rs := r) (k := j) hrl (by omega) (by omega) hr7 hxt.1) 2 gX0_extend_X0_isInRow rfl rfl rfl (by decide +kernel) ⟨Nat.le_of_ble_eq_true rfl, Nat.le_of_ble_eq_true rfl⟩ dX0_extend_107 rfl (Nat.le_of_ble_eq_true rfl) ⟨Nat.le_of_ble_eq_true rfl, Nat.le_of_ble_eq_true rfl⟩ (fun r_107 V_5 G_6 hq_107 => ?_)
              obtain ⟨hs_107, rfl, rfl⟩ := hq_107
              refine q_if_ne C 125 dX0_extend_110 (by decide) (fun c_110 => ?_) (fun c_110 => ?_)
              · skip
                have b_107 := (q_is_ne hs_107).mp c_110
                refine q_iincN C [(4, .int (nI (j + 1))), (0, .ref (σ.2.1 9)), (1, .int (nI 4)), (2, .ref (σ.2.1 16)), (3, .int (nI (q_la r)))] dX0_extend_125 0 rfl (by decide) rfl ?_
                refine q_goto C 70 dX0_extend_128 (by decide) ?_
                refine q_sub (lv' := [(4, .int (nI (j + 1))), (0, .ref (σ.2.1 9)), (1, .int (nI 4)), (2, .ref (σ.2.1 16)), (3, .int (nI (q_la r)))]) [0, 1, 2, 3, 4] rfl ?_
                exact ihL_2 _ (j + 1) _ hU hxt hb7' (by omega) (by omega) ((hch.trans (q_chs_step (by omega))).trans (congrArg (q_chs _ _ _) (q_stp_n (fun z => by have z9 := q_row_un (by omega) z; first | exact hrdj z9.1 | exact b_97 (by rw [hxt.2.2.1]; exact z9.2.2.2) | (obtain ⟨i, hi, e⟩ := b_107; exact z9.2.2.1 i hi e))))) (by omega)
              · skip
                have b_107 := (q_is_eq hs_107).mp c_110
                refine q_aload_n C dX0_extend_113 rfl 3 rfl ?_
                refine q_iload_n C dX0_extend_114 rfl 2 rfl ?_
                refine q_iload C dX0_extend_115 0 rfl ?_
                refine q_iastN C (k := 16) (n := 7) ⟨by decide, by decide, by decide⟩ (by omega) (by decide) dX0_extend_117 ?_
                refine q_aload_n C dX0_extend_118 rfl 1 rfl ?_
                refine q_iload_n C dX0_extend_119 rfl 2 rfl ?_
                refine q_iconst C (nI 1) dX0_extend_120 (by decide) ?_
                refine q_iaddN C dX0_extend_121  ?_
                refine q_callSv C (As := [.ref (σ.2.1 9), .int (nI (4 + 1))]) (rest := []) (kX0_extend_2 l σ (q_up U 16 4 (nI j)) G (r := r ++ [j]) (b := b') (by rw [q_len_app, hrl]) (q_app_lt hr7 (by omega)) hb7' (q_xt_app hrl hxt j)) 2 gX0_extend_X0_extend rfl rfl rfl (by decide +kernel) ⟨Nat.le_of_ble_eq_true rfl, Nat.le_of_ble_eq_true rfl⟩ dX0_extend_122 rfl (Nat.le_of_ble_eq_true rfl) ⟨Nat.le_of_ble_eq_true rfl, Nat.le_of_ble_eq_true rfl⟩ (fun V_7 G_8 hq_122 => ?_)
                obtain ⟨hU2_122, hx2_122, rfl⟩ := hq_122
                refine q_iincN C [(4, .int (nI (j + 1))), (0, .ref (σ.2.1 9)), (1, .int (nI 4)), (2, .ref (σ.2.1 16)), (3, .int (nI (q_la r)))] dX0_extend_125 0 rfl (by decide) rfl ?_
                refine q_goto C 70 dX0_extend_128 (by decide) ?_
                refine q_sub (lv' := [(4, .int (nI (j + 1))), (0, .ref (σ.2.1 9)), (1, .int (nI 4)), (2, .ref (σ.2.1 16)), (3, .int (nI (q_la r)))]) [0, 1, 2, 3, 4] rfl ?_
                exact ihL_2 _ (j + 1) _ (q_xoff_tr (q_xoff_tr hU (q_xoff_app U _ _)) hU2_122) (q_xt_pre hx2_122) (q_ch_len rd gt _ _ _ (by rw [q_len_app]; omega) (q_upb_len hb7' (by rw [q_len_app]; omega))) (by omega) (by omega) ((hch.trans (q_chs_step (by omega))).trans (congrArg (q_chs _ _ _) (q_stp_y ⟨hrdj, Or.inr ⟨hj0, fun i hi e => b_107 ⟨i, hi, e⟩, hxt.2.2.1 ▸ b_97⟩⟩))) (by omega)
    refine q_sub (lv' := [(4, .int (nI ((r.getD 0 0) + 1))), (0, .ref (σ.2.1 9)), (1, .int (nI 4)), (2, .ref (σ.2.1 16)), (3, .int (nI (q_la r)))]) [0, 1, 2, 3, 4] rfl ?_
    exact L_2 _ U (r.getD 0 0 + 1) _ hU hxt (q_upb_len hb7 (by omega)) (by omega) (by omega) (q_chs_skip (by omega) hhd7) (Nat.lt_succ_self _)
  refine q_iload_n C dX0_extend_23 rfl 3 rfl ?_
  refine q_iconst C (nI 1) dX0_extend_24 (by decide) ?_
  refine q_icmp_leN C 63 dX0_extend_25 (by decide) (by omega) (by omega) (fun c_25 => absurd c_25 (by omega)) (fun c_25 => ?_)
  refine q_iload_n C dX0_extend_28 rfl 3 rfl ?_
  refine q_aload_n C dX0_extend_29 rfl 2 rfl ?_
  refine q_get C (k := 9) (fi := 5) (.int (nI b.length)) (by omega) q_enBA rfl iX0_extend_3_X0 (by decide) (by decide +kernel) rfl (by rw [← hxt.2.2.2.1]; rfl) dX0_extend_30 ?_
  refine q_icmp_leN C 63 dX0_extend_33 (by decide) (by omega) (by omega) (fun c_33 => ?_) (fun c_33 => ?_)
  · skip
    refine q_sub (lv' := [(0, .ref (σ.2.1 9)), (1, .int (nI 4)), (2, .ref (σ.2.1 16)), (3, .int (nI (q_la r)))]) [2, 3, 1, 0] rfl ?_
    exact J_1 _ (q_xoff_rfl V) (by rw [q_upb_n (by first | exact fun z => by omega | exact fun z => b_41 (by rw [hxt.2.2.1]; exact z.2.2))]; exact hxt)
  · skip
    refine q_aload_n C dX0_extend_36 rfl 2 rfl ?_
    refine q_iload_n C dX0_extend_37 rfl 0 rfl ?_
    refine q_aload_n C dX0_extend_38 rfl 1 rfl ?_
    refine q_iconst C (nI 0) dX0_extend_39 (by decide) ?_
    refine q_ialdN C (k := 16) (n := 7) ⟨by decide, by decide, by decide⟩ (by omega) (by decide) dX0_extend_40 ?_
    refine q_stk (st' := [.int (nI (r.getD 0 0)), .int (nI (q_la r)), .ref (σ.2.1 9)]) (congrArg (fun z => Value.int z :: [.int (nI (q_la r)), .ref (σ.2.1 9)]) (hxt.1 0 (by omega))) ?_
    refine q_callVi C (As := [.int (nI (q_la r)), .int (nI (r.getD 0 0))]) (rest := []) (k := 9) (by omega) q_enBA rfl rfl (kX0_getsFrom l σ V G (a := q_la r) (b := r.getD 0 0) (by omega) (by omega)) 2 gX0_extend_X0_getsFrom rfl rfl rfl (by decide +kernel) ⟨Nat.le_of_ble_eq_true rfl, Nat.le_of_ble_eq_true rfl⟩ dX0_extend_41 rfl (Nat.le_of_ble_eq_true rfl) ⟨Nat.le_of_ble_eq_true rfl, Nat.le_of_ble_eq_true rfl⟩ (fun r_41 V_9 G_10 hq_41 => ?_)
    obtain ⟨hs_41, rfl, rfl⟩ := hq_41
    refine q_if_eq C 63 dX0_extend_44 (by decide) (fun c_44 => ?_) (fun c_44 => ?_)
    · skip
      have b_41 := (q_is_eq hs_41).mp c_44
      refine q_sub (lv' := [(0, .ref (σ.2.1 9)), (1, .int (nI 4)), (2, .ref (σ.2.1 16)), (3, .int (nI (q_la r)))]) [2, 3, 1, 0] rfl ?_
      exact J_1 _ (q_xoff_rfl V) (by rw [q_upb_n (by first | exact fun z => by omega | exact fun z => b_41 (by rw [hxt.2.2.1]; exact z.2.2))]; exact hxt)
    · skip
      have b_41 := (q_is_ne hs_41).mp c_44
      refine q_aload_n C dX0_extend_47 rfl 1 rfl ?_
      refine q_iconst C (nI 0) dX0_extend_48 (by decide) ?_
      refine q_aload_n C dX0_extend_49 rfl 2 rfl ?_
      refine q_get C (k := 9) (fi := 4) (.ref (σ.2.1 17)) (by omega) q_enBA rfl iX0_extend_3_X0 (by decide) (by decide +kernel) rfl rfl dX0_extend_50 ?_
      refine q_iconst C (nI 0) dX0_extend_53 (by decide) ?_
      refine q_iload_n C dX0_extend_54 rfl 3 rfl ?_
      refine q_copyI C (k1 := 16) (k2 := 17) (n1 := 7) (n2 := 7) (n := 4) ⟨by decide, by decide, by decide⟩ ⟨by decide, by decide, by decide⟩ (by omega) (by omega) (by omega) (by decide +kernel) (by decide +kernel) (by decide +kernel) (by decide +kernel) (Nat.le_of_ble_eq_true rfl) (Nat.le_of_ble_eq_true rfl) dX0_extend_55 ?_
      refine q_aload_n C dX0_extend_58 rfl 2 rfl ?_
      refine q_iload_n C dX0_extend_59 rfl 3 rfl ?_
      refine q_put C (k := 9) (fi := 5) tyX0 tyX0_ok nmX0 (by omega) q_enBA rfl iX0_extend_3_X0 (by decide) (by decide +kernel) rfl rfl (by decide +kernel) (Nat.le_of_ble_eq_true rfl) (q_enBA |>.trans (by simp [q_up])) dX0_extend_60 ?_
      refine q_sub (lv' := [(0, .ref (σ.2.1 9)), (1, .int (nI 4)), (2, .ref (σ.2.1 16)), (3, .int (nI (q_la r)))]) [2, 3, 1, 0] rfl ?_
      exact J_1 _ (q_xoff_take V 4 _) (by rw [q_upb_y (by omega) (hxt.2.2.1 ▸ b_41) (by omega)]; exact q_xt_take hrl hxt)
abbrev rX0_extend_4 : Room := { frames := 6, cells := 0, slots := 0, locals := 296 }
theorem iX0_extend_4_X0 : ∀ w ∈ u_ws RX0 TX0 6, w ∈ wsX0_extend := by decide +kernel
set_option maxHeartbeats 4000000 in
set_option maxRecDepth 100000 in
/-- Barter.extend, a row of 3 -/
theorem kX0_extend_4 (l : Launch) (σ : q_E) (V : q_V) (G : q_G) {rd : Nat → Prop} {gt : Nat → Nat → Prop} {r b : List Nat} (hrl : r.length = 3) (hr7 : ∀ i, i < r.length → r.getD i 0 < 7) (hb7 : b.length ≤ 7) (hxt : q_xt V rd gt r b) : q_Mv l yX0_extend wsX0_extend rX0_extend_4 σ [.ref (σ.2.1 9), .int (nI 3)] V G (fun V' G' => q_xoff V V' ∧ q_xt V' rd gt r (q_ch rd gt 4 r (q_upb gt b r)) ∧ G = G') 0 0 := by
  refine q_Mv_of (cc := cX0_extend) (maxL := 5) (lv := [(0, .ref (σ.2.1 9)), (1, .int (nI 3))]) (by decide +kernel) rfl (Nat.le_of_ble_eq_true rfl) rfl ?_
  intro p e s m args below meth c Q C hR
  have hla7 : q_la r < 7 := hr7 (r.length - 1) (by omega)
  have hhd7 : r.getD 0 0 < 7 := hr7 0 (by omega)
  refine q_iload_n C dX0_extend_0 rfl 1 rfl ?_
  refine q_iconst C (nI 1) dX0_extend_1 (by decide) ?_
  refine q_icmp_ltN C 11 dX0_extend_2 (by decide) (by omega) (by omega) (fun c_2 => absurd c_2 (by omega)) (fun c_2 => ?_)
  refine q_iload_n C dX0_extend_5 rfl 1 rfl ?_
  refine q_bipush C (nI 7) dX0_extend_6 (by decide) ?_
  refine q_icmp_leN C 12 dX0_extend_8 (by decide) (by omega) (by omega) (fun c_8 => ?_) (fun c_8 => absurd c_8 (by omega))
  refine q_aload_n C dX0_extend_12 rfl 0 rfl ?_
  refine q_get C (k := 9) (fi := 3) (.ref (σ.2.1 16)) (by omega) q_enBA rfl iX0_extend_4_X0 (by decide) (by decide +kernel) rfl rfl dX0_extend_13 ?_
  refine q_astore_n C [(2, .ref (σ.2.1 16)), (0, .ref (σ.2.1 9)), (1, .int (nI 3))] dX0_extend_16 rfl (by decide) rfl ?_
  refine q_aload_n C dX0_extend_17 rfl 0 rfl ?_
  refine q_iload_n C dX0_extend_18 rfl 2 rfl ?_
  refine q_iconst C (nI 1) dX0_extend_19 (by decide) ?_
  refine q_isubN C dX0_extend_20 (by omega) ?_
  refine q_ialdN C (k := 16) (n := 7) ⟨by decide, by decide, by decide⟩ (by omega) (by decide) dX0_extend_21 ?_
  refine q_stk (st' := [.int (nI (q_la r))]) (congrArg (fun z => Value.int z :: []) ((hxt.1 2 (by omega)).trans (by rw [q_la, hrl]))) ?_
  refine q_istore_n C [(3, .int (nI (q_la r))), (2, .ref (σ.2.1 16)), (0, .ref (σ.2.1 9)), (1, .int (nI 3))] dX0_extend_22 rfl (by decide) rfl ?_
  have J_1 : ∀ (U : q_V) (hU : q_xoff V U) (hxt : q_xt U rd gt r (q_upb gt b r)), q_W σ p l e rX0_extend_4 s m args below meth c Q 5 0 0 U G [(0, .ref (σ.2.1 9)), (1, .int (nI 3)), (2, .ref (σ.2.1 16)), (3, .int (nI (q_la r)))] 63 [] := by
    intro U hU hxt
    refine q_aload_n C dX0_extend_63 rfl 2 rfl ?_
    refine q_iconst C (nI 0) dX0_extend_64 (by decide) ?_
    refine q_ialdN C (k := 16) (n := 7) ⟨by decide, by decide, by decide⟩ (by omega) (by decide) dX0_extend_65 ?_
    refine q_stk (st' := [.int (nI (r.getD 0 0))]) (congrArg (fun z => Value.int z :: []) (hxt.1 0 (by omega))) ?_
    refine q_iconst C (nI 1) dX0_extend_66 (by decide) ?_
    refine q_iaddN C dX0_extend_67  ?_
    refine q_istore C [(4, .int (nI ((r.getD 0 0) + 1))), (0, .ref (σ.2.1 9)), (1, .int (nI 3)), (2, .ref (σ.2.1 16)), (3, .int (nI (q_la r)))] dX0_extend_68 (by decide) rfl ?_
    have L_2 : ∀ (nL_2 : Nat) (U : q_V) (j : Nat) (b' : List Nat) (hU : q_xoff V U) (hxt : q_xt U rd gt r b') (hb7' : b'.length ≤ 7) (hj : j ≤ 7) (hj0 : r.getD 0 0 < j) (hch : q_ch rd gt 4 r (q_upb gt b r) = q_chs (q_stp rd gt 3 r) (7 - j) j b'), 7 - j < nL_2 → q_W σ p l e rX0_extend_4 s m args below meth c Q 5 0 0 U G [(4, .int (nI j)), (0, .ref (σ.2.1 9)), (1, .int (nI 3)), (2, .ref (σ.2.1 16)), (3, .int (nI (q_la r)))] 70 [] := by
      intro nL_2
      induction nL_2 with
      | zero => intro U j b' hU hxt hb7' hj hj0 hch h; exact absurd h (Nat.not_lt_zero _)
      | succ nL_2 ihL_2 =>
        intro U j b' hU hxt hb7' hj hj0 hch hmL_2
        refine q_iload C dX0_extend_70 0 rfl ?_
        refine q_bipush C (nI 7) dX0_extend_72 (by decide) ?_
        refine q_icmp_geN C 131 dX0_extend_74 (by decide) (by omega) (by omega) (fun c_74 => ?_) (fun c_74 => ?_)
        · skip
          refine hR _ _ _ _ _ _ ?_ (Nat.le_of_ble_eq_true rfl) (Nat.le_of_ble_eq_true rfl) dX0_extend_131
          obtain rfl : j = 7 := by omega
          rw [hch]
          exact ⟨hU, hxt, rfl⟩
        · skip
          refine q_iload_n C dX0_extend_77 rfl 2 rfl ?_
          refine q_bipush C (nI 7) dX0_extend_78 (by decide) ?_
          refine q_icmp_geN C 131 dX0_extend_80 (by decide) (by omega) (by omega) (fun c_80 => absurd c_80 (by omega)) (fun c_80 => ?_)
          refine q_aload_n C dX0_extend_83 rfl 1 rfl ?_
          refine q_get C (k := 9) (fi := 2) (.ref (σ.2.1 15)) (by omega) q_enBA rfl iX0_extend_4_X0 (by decide) (by decide +kernel) rfl rfl dX0_extend_84 ?_
          refine q_iload C dX0_extend_87 0 rfl ?_
          refine q_zaldN C (by omega) dX0_extend_89 ?_
          refine q_if_eq C 125 dX0_extend_90 (by decide) (fun c_90 => ?_) (fun c_90 => ?_)
          · skip
            have hrdj : ¬ rd j := fun z => by rw [hxt.2.1 j (by omega), q_w01_y z] at c_90; exact absurd c_90 (by decide)
            refine q_iincN C [(4, .int (nI (j + 1))), (0, .ref (σ.2.1 9)), (1, .int (nI 3)), (2, .ref (σ.2.1 16)), (3, .int (nI (q_la r)))] dX0_extend_125 0 rfl (by decide) rfl ?_
            refine q_goto C 70 dX0_extend_128 (by decide) ?_
            refine q_sub (lv' := [(4, .int (nI (j + 1))), (0, .ref (σ.2.1 9)), (1, .int (nI 3)), (2, .ref (σ.2.1 16)), (3, .int (nI (q_la r)))]) [0, 1, 2, 3, 4] rfl ?_
            exact ihL_2 _ (j + 1) _ hU hxt hb7' (by omega) (by omega) ((hch.trans (q_chs_step (by omega))).trans (congrArg (q_chs _ _ _) (q_stp_n (fun z => by have z9 := q_row_un (by omega) z; first | exact hrdj z9.1 | exact b_97 (by rw [hxt.2.2.1]; exact z9.2.2.2) | (obtain ⟨i, hi, e⟩ := b_107; exact z9.2.2.1 i hi e))))) (by omega)
          · skip
            have hrdj : rd j := Classical.byContradiction fun z => c_90 (by rw [hxt.2.1 j (by omega), q_w01_n z])
            refine q_aload_n C dX0_extend_93 rfl 1 rfl ?_
            refine q_iload_n C dX0_extend_94 rfl 4 rfl ?_
            refine q_iload C dX0_extend_95 0 rfl ?_
            refine q_callVi C (As := [.int (nI (q_la r)), .int (nI j)]) (rest := []) (k := 9) (by omega) q_enBA rfl rfl (kX0_getsFrom l σ U G (a := q_la r) (b := j) (by omega) (by omega)) 2 gX0_extend_X0_getsFrom rfl rfl rfl (by decide +kernel) ⟨Nat.le_of_ble_eq_true rfl, Nat.le_of_ble_eq_true rfl⟩ dX0_extend_97 rfl (Nat.le_of_ble_eq_true rfl) ⟨Nat.le_of_ble_eq_true rfl, Nat.le_of_ble_eq_true rfl⟩ (fun r_97 V_3 G_4 hq_97 => ?_)
            obtain ⟨hs_97, rfl, rfl⟩ := hq_97
            refine q_if_eq C 125 dX0_extend_100 (by decide) (fun c_100 => ?_) (fun c_100 => ?_)
            · skip
              have b_97 := (q_is_eq hs_97).mp c_100
              refine q_iincN C [(4, .int (nI (j + 1))), (0, .ref (σ.2.1 9)), (1, .int (nI 3)), (2, .ref (σ.2.1 16)), (3, .int (nI (q_la r)))] dX0_extend_125 0 rfl (by decide) rfl ?_
              refine q_goto C 70 dX0_extend_128 (by decide) ?_
              refine q_sub (lv' := [(4, .int (nI (j + 1))), (0, .ref (σ.2.1 9)), (1, .int (nI 3)), (2, .ref (σ.2.1 16)), (3, .int (nI (q_la r)))]) [0, 1, 2, 3, 4] rfl ?_
              exact ihL_2 _ (j + 1) _ hU hxt hb7' (by omega) (by omega) ((hch.trans (q_chs_step (by omega))).trans (congrArg (q_chs _ _ _) (q_stp_n (fun z => by have z9 := q_row_un (by omega) z; first | exact hrdj z9.1 | exact b_97 (by rw [hxt.2.2.1]; exact z9.2.2.2) | (obtain ⟨i, hi, e⟩ := b_107; exact z9.2.2.1 i hi e))))) (by omega)
            · skip
              have b_97 := (q_is_ne hs_97).mp c_100
              refine q_aload_n C dX0_extend_103 rfl 1 rfl ?_
              refine q_iload C dX0_extend_104 0 rfl ?_
              refine q_iload_n C dX0_extend_106 rfl 2 rfl ?_
              refine q_callVi C (As := [.int (nI j), .int (nI 3)]) (rest := []) (k := 9) (by omega) q_enBA rfl rfl (kX0_isInRow l σ U G (rs := r) (k := j) hrl (by omega) (by omega) hr7 hxt.1) 2 gX0_extend_X0_isInRow rfl rfl rfl (by decide +kernel) ⟨Nat.le_of_ble_eq_true rfl, Nat.le_of_ble_eq_true rfl⟩ dX0_extend_107 rfl (Nat.le_of_ble_eq_true rfl) ⟨Nat.le_of_ble_eq_true rfl, Nat.le_of_ble_eq_true rfl⟩ (fun r_107 V_5 G_6 hq_107 => ?_)
              obtain ⟨hs_107, rfl, rfl⟩ := hq_107
              refine q_if_ne C 125 dX0_extend_110 (by decide) (fun c_110 => ?_) (fun c_110 => ?_)
              · skip
                have b_107 := (q_is_ne hs_107).mp c_110
                refine q_iincN C [(4, .int (nI (j + 1))), (0, .ref (σ.2.1 9)), (1, .int (nI 3)), (2, .ref (σ.2.1 16)), (3, .int (nI (q_la r)))] dX0_extend_125 0 rfl (by decide) rfl ?_
                refine q_goto C 70 dX0_extend_128 (by decide) ?_
                refine q_sub (lv' := [(4, .int (nI (j + 1))), (0, .ref (σ.2.1 9)), (1, .int (nI 3)), (2, .ref (σ.2.1 16)), (3, .int (nI (q_la r)))]) [0, 1, 2, 3, 4] rfl ?_
                exact ihL_2 _ (j + 1) _ hU hxt hb7' (by omega) (by omega) ((hch.trans (q_chs_step (by omega))).trans (congrArg (q_chs _ _ _) (q_stp_n (fun z => by have z9 := q_row_un (by omega) z; first | exact hrdj z9.1 | exact b_97 (by rw [hxt.2.2.1]; exact z9.2.2.2) | (obtain ⟨i, hi, e⟩ := b_107; exact z9.2.2.1 i hi e))))) (by omega)
              · skip
                have b_107 := (q_is_eq hs_107).mp c_110
                refine q_aload_n C dX0_extend_113 rfl 3 rfl ?_
                refine q_iload_n C dX0_extend_114 rfl 2 rfl ?_
                refine q_iload C dX0_extend_115 0 rfl ?_
                refine q_iastN C (k := 16) (n := 7) ⟨by decide, by decide, by decide⟩ (by omega) (by decide) dX0_extend_117 ?_
                refine q_aload_n C dX0_extend_118 rfl 1 rfl ?_
                refine q_iload_n C dX0_extend_119 rfl 2 rfl ?_
                refine q_iconst C (nI 1) dX0_extend_120 (by decide) ?_
                refine q_iaddN C dX0_extend_121  ?_
                refine q_callSv C (As := [.ref (σ.2.1 9), .int (nI (3 + 1))]) (rest := []) (kX0_extend_3 l σ (q_up U 16 3 (nI j)) G (r := r ++ [j]) (b := b') (by rw [q_len_app, hrl]) (q_app_lt hr7 (by omega)) hb7' (q_xt_app hrl hxt j)) 2 gX0_extend_X0_extend rfl rfl rfl (by decide +kernel) ⟨Nat.le_of_ble_eq_true rfl, Nat.le_of_ble_eq_true rfl⟩ dX0_extend_122 rfl (Nat.le_of_ble_eq_true rfl) ⟨Nat.le_of_ble_eq_true rfl, Nat.le_of_ble_eq_true rfl⟩ (fun V_7 G_8 hq_122 => ?_)
                obtain ⟨hU2_122, hx2_122, rfl⟩ := hq_122
                refine q_iincN C [(4, .int (nI (j + 1))), (0, .ref (σ.2.1 9)), (1, .int (nI 3)), (2, .ref (σ.2.1 16)), (3, .int (nI (q_la r)))] dX0_extend_125 0 rfl (by decide) rfl ?_
                refine q_goto C 70 dX0_extend_128 (by decide) ?_
                refine q_sub (lv' := [(4, .int (nI (j + 1))), (0, .ref (σ.2.1 9)), (1, .int (nI 3)), (2, .ref (σ.2.1 16)), (3, .int (nI (q_la r)))]) [0, 1, 2, 3, 4] rfl ?_
                exact ihL_2 _ (j + 1) _ (q_xoff_tr (q_xoff_tr hU (q_xoff_app U _ _)) hU2_122) (q_xt_pre hx2_122) (q_ch_len rd gt _ _ _ (by rw [q_len_app]; omega) (q_upb_len hb7' (by rw [q_len_app]; omega))) (by omega) (by omega) ((hch.trans (q_chs_step (by omega))).trans (congrArg (q_chs _ _ _) (q_stp_y ⟨hrdj, Or.inr ⟨hj0, fun i hi e => b_107 ⟨i, hi, e⟩, hxt.2.2.1 ▸ b_97⟩⟩))) (by omega)
    refine q_sub (lv' := [(4, .int (nI ((r.getD 0 0) + 1))), (0, .ref (σ.2.1 9)), (1, .int (nI 3)), (2, .ref (σ.2.1 16)), (3, .int (nI (q_la r)))]) [0, 1, 2, 3, 4] rfl ?_
    exact L_2 _ U (r.getD 0 0 + 1) _ hU hxt (q_upb_len hb7 (by omega)) (by omega) (by omega) (q_chs_skip (by omega) hhd7) (Nat.lt_succ_self _)
  refine q_iload_n C dX0_extend_23 rfl 3 rfl ?_
  refine q_iconst C (nI 1) dX0_extend_24 (by decide) ?_
  refine q_icmp_leN C 63 dX0_extend_25 (by decide) (by omega) (by omega) (fun c_25 => absurd c_25 (by omega)) (fun c_25 => ?_)
  refine q_iload_n C dX0_extend_28 rfl 3 rfl ?_
  refine q_aload_n C dX0_extend_29 rfl 2 rfl ?_
  refine q_get C (k := 9) (fi := 5) (.int (nI b.length)) (by omega) q_enBA rfl iX0_extend_4_X0 (by decide) (by decide +kernel) rfl (by rw [← hxt.2.2.2.1]; rfl) dX0_extend_30 ?_
  refine q_icmp_leN C 63 dX0_extend_33 (by decide) (by omega) (by omega) (fun c_33 => ?_) (fun c_33 => ?_)
  · skip
    refine q_sub (lv' := [(0, .ref (σ.2.1 9)), (1, .int (nI 3)), (2, .ref (σ.2.1 16)), (3, .int (nI (q_la r)))]) [2, 3, 1, 0] rfl ?_
    exact J_1 _ (q_xoff_rfl V) (by rw [q_upb_n (by first | exact fun z => by omega | exact fun z => b_41 (by rw [hxt.2.2.1]; exact z.2.2))]; exact hxt)
  · skip
    refine q_aload_n C dX0_extend_36 rfl 2 rfl ?_
    refine q_iload_n C dX0_extend_37 rfl 0 rfl ?_
    refine q_aload_n C dX0_extend_38 rfl 1 rfl ?_
    refine q_iconst C (nI 0) dX0_extend_39 (by decide) ?_
    refine q_ialdN C (k := 16) (n := 7) ⟨by decide, by decide, by decide⟩ (by omega) (by decide) dX0_extend_40 ?_
    refine q_stk (st' := [.int (nI (r.getD 0 0)), .int (nI (q_la r)), .ref (σ.2.1 9)]) (congrArg (fun z => Value.int z :: [.int (nI (q_la r)), .ref (σ.2.1 9)]) (hxt.1 0 (by omega))) ?_
    refine q_callVi C (As := [.int (nI (q_la r)), .int (nI (r.getD 0 0))]) (rest := []) (k := 9) (by omega) q_enBA rfl rfl (kX0_getsFrom l σ V G (a := q_la r) (b := r.getD 0 0) (by omega) (by omega)) 2 gX0_extend_X0_getsFrom rfl rfl rfl (by decide +kernel) ⟨Nat.le_of_ble_eq_true rfl, Nat.le_of_ble_eq_true rfl⟩ dX0_extend_41 rfl (Nat.le_of_ble_eq_true rfl) ⟨Nat.le_of_ble_eq_true rfl, Nat.le_of_ble_eq_true rfl⟩ (fun r_41 V_9 G_10 hq_41 => ?_)
    obtain ⟨hs_41, rfl, rfl⟩ := hq_41
    refine q_if_eq C 63 dX0_extend_44 (by decide) (fun c_44 => ?_) (fun c_44 => ?_)
    · skip
      have b_41 := (q_is_eq hs_41).mp c_44
      refine q_sub (lv' := [(0, .ref (σ.2.1 9)), (1, .int (nI 3)), (2, .ref (σ.2.1 16)), (3, .int (nI (q_la r)))]) [2, 3, 1, 0] rfl ?_
      exact J_1 _ (q_xoff_rfl V) (by rw [q_upb_n (by first | exact fun z => by omega | exact fun z => b_41 (by rw [hxt.2.2.1]; exact z.2.2))]; exact hxt)
    · skip
      have b_41 := (q_is_ne hs_41).mp c_44
      refine q_aload_n C dX0_extend_47 rfl 1 rfl ?_
      refine q_iconst C (nI 0) dX0_extend_48 (by decide) ?_
      refine q_aload_n C dX0_extend_49 rfl 2 rfl ?_
      refine q_get C (k := 9) (fi := 4) (.ref (σ.2.1 17)) (by omega) q_enBA rfl iX0_extend_4_X0 (by decide) (by decide +kernel) rfl rfl dX0_extend_50 ?_
      refine q_iconst C (nI 0) dX0_extend_53 (by decide) ?_
      refine q_iload_n C dX0_extend_54 rfl 3 rfl ?_
      refine q_copyI C (k1 := 16) (k2 := 17) (n1 := 7) (n2 := 7) (n := 3) ⟨by decide, by decide, by decide⟩ ⟨by decide, by decide, by decide⟩ (by omega) (by omega) (by omega) (by decide +kernel) (by decide +kernel) (by decide +kernel) (by decide +kernel) (Nat.le_of_ble_eq_true rfl) (Nat.le_of_ble_eq_true rfl) dX0_extend_55 ?_
      refine q_aload_n C dX0_extend_58 rfl 2 rfl ?_
      refine q_iload_n C dX0_extend_59 rfl 3 rfl ?_
      refine q_put C (k := 9) (fi := 5) tyX0 tyX0_ok nmX0 (by omega) q_enBA rfl iX0_extend_4_X0 (by decide) (by decide +kernel) rfl rfl (by decide +kernel) (Nat.le_of_ble_eq_true rfl) (q_enBA |>.trans (by simp [q_up])) dX0_extend_60 ?_
      refine q_sub (lv' := [(0, .ref (σ.2.1 9)), (1, .int (nI 3)), (2, .ref (σ.2.1 16)), (3, .int (nI (q_la r)))]) [2, 3, 1, 0] rfl ?_
      exact J_1 _ (q_xoff_take V 3 _) (by rw [q_upb_y (by omega) (hxt.2.2.1 ▸ b_41) (by omega)]; exact q_xt_take hrl hxt)
abbrev rX0_extend_5 : Room := { frames := 7, cells := 0, slots := 0, locals := 320 }
theorem iX0_extend_5_X0 : ∀ w ∈ u_ws RX0 TX0 6, w ∈ wsX0_extend := by decide +kernel
set_option maxHeartbeats 4000000 in
set_option maxRecDepth 100000 in
/-- Barter.extend, a row of 2 -/
theorem kX0_extend_5 (l : Launch) (σ : q_E) (V : q_V) (G : q_G) {rd : Nat → Prop} {gt : Nat → Nat → Prop} {r b : List Nat} (hrl : r.length = 2) (hr7 : ∀ i, i < r.length → r.getD i 0 < 7) (hb7 : b.length ≤ 7) (hxt : q_xt V rd gt r b) : q_Mv l yX0_extend wsX0_extend rX0_extend_5 σ [.ref (σ.2.1 9), .int (nI 2)] V G (fun V' G' => q_xoff V V' ∧ q_xt V' rd gt r (q_ch rd gt 5 r (q_upb gt b r)) ∧ G = G') 0 0 := by
  refine q_Mv_of (cc := cX0_extend) (maxL := 5) (lv := [(0, .ref (σ.2.1 9)), (1, .int (nI 2))]) (by decide +kernel) rfl (Nat.le_of_ble_eq_true rfl) rfl ?_
  intro p e s m args below meth c Q C hR
  have hla7 : q_la r < 7 := hr7 (r.length - 1) (by omega)
  have hhd7 : r.getD 0 0 < 7 := hr7 0 (by omega)
  refine q_iload_n C dX0_extend_0 rfl 1 rfl ?_
  refine q_iconst C (nI 1) dX0_extend_1 (by decide) ?_
  refine q_icmp_ltN C 11 dX0_extend_2 (by decide) (by omega) (by omega) (fun c_2 => absurd c_2 (by omega)) (fun c_2 => ?_)
  refine q_iload_n C dX0_extend_5 rfl 1 rfl ?_
  refine q_bipush C (nI 7) dX0_extend_6 (by decide) ?_
  refine q_icmp_leN C 12 dX0_extend_8 (by decide) (by omega) (by omega) (fun c_8 => ?_) (fun c_8 => absurd c_8 (by omega))
  refine q_aload_n C dX0_extend_12 rfl 0 rfl ?_
  refine q_get C (k := 9) (fi := 3) (.ref (σ.2.1 16)) (by omega) q_enBA rfl iX0_extend_5_X0 (by decide) (by decide +kernel) rfl rfl dX0_extend_13 ?_
  refine q_astore_n C [(2, .ref (σ.2.1 16)), (0, .ref (σ.2.1 9)), (1, .int (nI 2))] dX0_extend_16 rfl (by decide) rfl ?_
  refine q_aload_n C dX0_extend_17 rfl 0 rfl ?_
  refine q_iload_n C dX0_extend_18 rfl 2 rfl ?_
  refine q_iconst C (nI 1) dX0_extend_19 (by decide) ?_
  refine q_isubN C dX0_extend_20 (by omega) ?_
  refine q_ialdN C (k := 16) (n := 7) ⟨by decide, by decide, by decide⟩ (by omega) (by decide) dX0_extend_21 ?_
  refine q_stk (st' := [.int (nI (q_la r))]) (congrArg (fun z => Value.int z :: []) ((hxt.1 1 (by omega)).trans (by rw [q_la, hrl]))) ?_
  refine q_istore_n C [(3, .int (nI (q_la r))), (2, .ref (σ.2.1 16)), (0, .ref (σ.2.1 9)), (1, .int (nI 2))] dX0_extend_22 rfl (by decide) rfl ?_
  have J_1 : ∀ (U : q_V) (hU : q_xoff V U) (hxt : q_xt U rd gt r (q_upb gt b r)), q_W σ p l e rX0_extend_5 s m args below meth c Q 5 0 0 U G [(0, .ref (σ.2.1 9)), (1, .int (nI 2)), (2, .ref (σ.2.1 16)), (3, .int (nI (q_la r)))] 63 [] := by
    intro U hU hxt
    refine q_aload_n C dX0_extend_63 rfl 2 rfl ?_
    refine q_iconst C (nI 0) dX0_extend_64 (by decide) ?_
    refine q_ialdN C (k := 16) (n := 7) ⟨by decide, by decide, by decide⟩ (by omega) (by decide) dX0_extend_65 ?_
    refine q_stk (st' := [.int (nI (r.getD 0 0))]) (congrArg (fun z => Value.int z :: []) (hxt.1 0 (by omega))) ?_
    refine q_iconst C (nI 1) dX0_extend_66 (by decide) ?_
    refine q_iaddN C dX0_extend_67  ?_
    refine q_istore C [(4, .int (nI ((r.getD 0 0) + 1))), (0, .ref (σ.2.1 9)), (1, .int (nI 2)), (2, .ref (σ.2.1 16)), (3, .int (nI (q_la r)))] dX0_extend_68 (by decide) rfl ?_
    have L_2 : ∀ (nL_2 : Nat) (U : q_V) (j : Nat) (b' : List Nat) (hU : q_xoff V U) (hxt : q_xt U rd gt r b') (hb7' : b'.length ≤ 7) (hj : j ≤ 7) (hj0 : r.getD 0 0 < j) (hch : q_ch rd gt 5 r (q_upb gt b r) = q_chs (q_stp rd gt 4 r) (7 - j) j b'), 7 - j < nL_2 → q_W σ p l e rX0_extend_5 s m args below meth c Q 5 0 0 U G [(4, .int (nI j)), (0, .ref (σ.2.1 9)), (1, .int (nI 2)), (2, .ref (σ.2.1 16)), (3, .int (nI (q_la r)))] 70 [] := by
      intro nL_2
      induction nL_2 with
      | zero => intro U j b' hU hxt hb7' hj hj0 hch h; exact absurd h (Nat.not_lt_zero _)
      | succ nL_2 ihL_2 =>
        intro U j b' hU hxt hb7' hj hj0 hch hmL_2
        refine q_iload C dX0_extend_70 0 rfl ?_
        refine q_bipush C (nI 7) dX0_extend_72 (by decide) ?_
        refine q_icmp_geN C 131 dX0_extend_74 (by decide) (by omega) (by omega) (fun c_74 => ?_) (fun c_74 => ?_)
        · skip
          refine hR _ _ _ _ _ _ ?_ (Nat.le_of_ble_eq_true rfl) (Nat.le_of_ble_eq_true rfl) dX0_extend_131
          obtain rfl : j = 7 := by omega
          rw [hch]
          exact ⟨hU, hxt, rfl⟩
        · skip
          refine q_iload_n C dX0_extend_77 rfl 2 rfl ?_
          refine q_bipush C (nI 7) dX0_extend_78 (by decide) ?_
          refine q_icmp_geN C 131 dX0_extend_80 (by decide) (by omega) (by omega) (fun c_80 => absurd c_80 (by omega)) (fun c_80 => ?_)
          refine q_aload_n C dX0_extend_83 rfl 1 rfl ?_
          refine q_get C (k := 9) (fi := 2) (.ref (σ.2.1 15)) (by omega) q_enBA rfl iX0_extend_5_X0 (by decide) (by decide +kernel) rfl rfl dX0_extend_84 ?_
          refine q_iload C dX0_extend_87 0 rfl ?_
          refine q_zaldN C (by omega) dX0_extend_89 ?_
          refine q_if_eq C 125 dX0_extend_90 (by decide) (fun c_90 => ?_) (fun c_90 => ?_)
          · skip
            have hrdj : ¬ rd j := fun z => by rw [hxt.2.1 j (by omega), q_w01_y z] at c_90; exact absurd c_90 (by decide)
            refine q_iincN C [(4, .int (nI (j + 1))), (0, .ref (σ.2.1 9)), (1, .int (nI 2)), (2, .ref (σ.2.1 16)), (3, .int (nI (q_la r)))] dX0_extend_125 0 rfl (by decide) rfl ?_
            refine q_goto C 70 dX0_extend_128 (by decide) ?_
            refine q_sub (lv' := [(4, .int (nI (j + 1))), (0, .ref (σ.2.1 9)), (1, .int (nI 2)), (2, .ref (σ.2.1 16)), (3, .int (nI (q_la r)))]) [0, 1, 2, 3, 4] rfl ?_
            exact ihL_2 _ (j + 1) _ hU hxt hb7' (by omega) (by omega) ((hch.trans (q_chs_step (by omega))).trans (congrArg (q_chs _ _ _) (q_stp_n (fun z => by have z9 := q_row_un (by omega) z; first | exact hrdj z9.1 | exact b_97 (by rw [hxt.2.2.1]; exact z9.2.2.2) | (obtain ⟨i, hi, e⟩ := b_107; exact z9.2.2.1 i hi e))))) (by omega)
          · skip
            have hrdj : rd j := Classical.byContradiction fun z => c_90 (by rw [hxt.2.1 j (by omega), q_w01_n z])
            refine q_aload_n C dX0_extend_93 rfl 1 rfl ?_
            refine q_iload_n C dX0_extend_94 rfl 4 rfl ?_
            refine q_iload C dX0_extend_95 0 rfl ?_
            refine q_callVi C (As := [.int (nI (q_la r)), .int (nI j)]) (rest := []) (k := 9) (by omega) q_enBA rfl rfl (kX0_getsFrom l σ U G (a := q_la r) (b := j) (by omega) (by omega)) 2 gX0_extend_X0_getsFrom rfl rfl rfl (by decide +kernel) ⟨Nat.le_of_ble_eq_true rfl, Nat.le_of_ble_eq_true rfl⟩ dX0_extend_97 rfl (Nat.le_of_ble_eq_true rfl) ⟨Nat.le_of_ble_eq_true rfl, Nat.le_of_ble_eq_true rfl⟩ (fun r_97 V_3 G_4 hq_97 => ?_)
            obtain ⟨hs_97, rfl, rfl⟩ := hq_97
            refine q_if_eq C 125 dX0_extend_100 (by decide) (fun c_100 => ?_) (fun c_100 => ?_)
            · skip
              have b_97 := (q_is_eq hs_97).mp c_100
              refine q_iincN C [(4, .int (nI (j + 1))), (0, .ref (σ.2.1 9)), (1, .int (nI 2)), (2, .ref (σ.2.1 16)), (3, .int (nI (q_la r)))] dX0_extend_125 0 rfl (by decide) rfl ?_
              refine q_goto C 70 dX0_extend_128 (by decide) ?_
              refine q_sub (lv' := [(4, .int (nI (j + 1))), (0, .ref (σ.2.1 9)), (1, .int (nI 2)), (2, .ref (σ.2.1 16)), (3, .int (nI (q_la r)))]) [0, 1, 2, 3, 4] rfl ?_
              exact ihL_2 _ (j + 1) _ hU hxt hb7' (by omega) (by omega) ((hch.trans (q_chs_step (by omega))).trans (congrArg (q_chs _ _ _) (q_stp_n (fun z => by have z9 := q_row_un (by omega) z; first | exact hrdj z9.1 | exact b_97 (by rw [hxt.2.2.1]; exact z9.2.2.2) | (obtain ⟨i, hi, e⟩ := b_107; exact z9.2.2.1 i hi e))))) (by omega)
            · skip
              have b_97 := (q_is_ne hs_97).mp c_100
              refine q_aload_n C dX0_extend_103 rfl 1 rfl ?_
              refine q_iload C dX0_extend_104 0 rfl ?_
              refine q_iload_n C dX0_extend_106 rfl 2 rfl ?_
              refine q_callVi C (As := [.int (nI j), .int (nI 2)]) (rest := []) (k := 9) (by omega) q_enBA rfl rfl (kX0_isInRow l σ U G (rs := r) (k := j) hrl (by omega) (by omega) hr7 hxt.1) 2 gX0_extend_X0_isInRow rfl rfl rfl (by decide +kernel) ⟨Nat.le_of_ble_eq_true rfl, Nat.le_of_ble_eq_true rfl⟩ dX0_extend_107 rfl (Nat.le_of_ble_eq_true rfl) ⟨Nat.le_of_ble_eq_true rfl, Nat.le_of_ble_eq_true rfl⟩ (fun r_107 V_5 G_6 hq_107 => ?_)
              obtain ⟨hs_107, rfl, rfl⟩ := hq_107
              refine q_if_ne C 125 dX0_extend_110 (by decide) (fun c_110 => ?_) (fun c_110 => ?_)
              · skip
                have b_107 := (q_is_ne hs_107).mp c_110
                refine q_iincN C [(4, .int (nI (j + 1))), (0, .ref (σ.2.1 9)), (1, .int (nI 2)), (2, .ref (σ.2.1 16)), (3, .int (nI (q_la r)))] dX0_extend_125 0 rfl (by decide) rfl ?_
                refine q_goto C 70 dX0_extend_128 (by decide) ?_
                refine q_sub (lv' := [(4, .int (nI (j + 1))), (0, .ref (σ.2.1 9)), (1, .int (nI 2)), (2, .ref (σ.2.1 16)), (3, .int (nI (q_la r)))]) [0, 1, 2, 3, 4] rfl ?_
                exact ihL_2 _ (j + 1) _ hU hxt hb7' (by omega) (by omega) ((hch.trans (q_chs_step (by omega))).trans (congrArg (q_chs _ _ _) (q_stp_n (fun z => by have z9 := q_row_un (by omega) z; first | exact hrdj z9.1 | exact b_97 (by rw [hxt.2.2.1]; exact z9.2.2.2) | (obtain ⟨i, hi, e⟩ := b_107; exact z9.2.2.1 i hi e))))) (by omega)
              · skip
                have b_107 := (q_is_eq hs_107).mp c_110
                refine q_aload_n C dX0_extend_113 rfl 3 rfl ?_
                refine q_iload_n C dX0_extend_114 rfl 2 rfl ?_
                refine q_iload C dX0_extend_115 0 rfl ?_
                refine q_iastN C (k := 16) (n := 7) ⟨by decide, by decide, by decide⟩ (by omega) (by decide) dX0_extend_117 ?_
                refine q_aload_n C dX0_extend_118 rfl 1 rfl ?_
                refine q_iload_n C dX0_extend_119 rfl 2 rfl ?_
                refine q_iconst C (nI 1) dX0_extend_120 (by decide) ?_
                refine q_iaddN C dX0_extend_121  ?_
                refine q_callSv C (As := [.ref (σ.2.1 9), .int (nI (2 + 1))]) (rest := []) (kX0_extend_4 l σ (q_up U 16 2 (nI j)) G (r := r ++ [j]) (b := b') (by rw [q_len_app, hrl]) (q_app_lt hr7 (by omega)) hb7' (q_xt_app hrl hxt j)) 2 gX0_extend_X0_extend rfl rfl rfl (by decide +kernel) ⟨Nat.le_of_ble_eq_true rfl, Nat.le_of_ble_eq_true rfl⟩ dX0_extend_122 rfl (Nat.le_of_ble_eq_true rfl) ⟨Nat.le_of_ble_eq_true rfl, Nat.le_of_ble_eq_true rfl⟩ (fun V_7 G_8 hq_122 => ?_)
                obtain ⟨hU2_122, hx2_122, rfl⟩ := hq_122
                refine q_iincN C [(4, .int (nI (j + 1))), (0, .ref (σ.2.1 9)), (1, .int (nI 2)), (2, .ref (σ.2.1 16)), (3, .int (nI (q_la r)))] dX0_extend_125 0 rfl (by decide) rfl ?_
                refine q_goto C 70 dX0_extend_128 (by decide) ?_
                refine q_sub (lv' := [(4, .int (nI (j + 1))), (0, .ref (σ.2.1 9)), (1, .int (nI 2)), (2, .ref (σ.2.1 16)), (3, .int (nI (q_la r)))]) [0, 1, 2, 3, 4] rfl ?_
                exact ihL_2 _ (j + 1) _ (q_xoff_tr (q_xoff_tr hU (q_xoff_app U _ _)) hU2_122) (q_xt_pre hx2_122) (q_ch_len rd gt _ _ _ (by rw [q_len_app]; omega) (q_upb_len hb7' (by rw [q_len_app]; omega))) (by omega) (by omega) ((hch.trans (q_chs_step (by omega))).trans (congrArg (q_chs _ _ _) (q_stp_y ⟨hrdj, Or.inr ⟨hj0, fun i hi e => b_107 ⟨i, hi, e⟩, hxt.2.2.1 ▸ b_97⟩⟩))) (by omega)
    refine q_sub (lv' := [(4, .int (nI ((r.getD 0 0) + 1))), (0, .ref (σ.2.1 9)), (1, .int (nI 2)), (2, .ref (σ.2.1 16)), (3, .int (nI (q_la r)))]) [0, 1, 2, 3, 4] rfl ?_
    exact L_2 _ U (r.getD 0 0 + 1) _ hU hxt (q_upb_len hb7 (by omega)) (by omega) (by omega) (q_chs_skip (by omega) hhd7) (Nat.lt_succ_self _)
  refine q_iload_n C dX0_extend_23 rfl 3 rfl ?_
  refine q_iconst C (nI 1) dX0_extend_24 (by decide) ?_
  refine q_icmp_leN C 63 dX0_extend_25 (by decide) (by omega) (by omega) (fun c_25 => absurd c_25 (by omega)) (fun c_25 => ?_)
  refine q_iload_n C dX0_extend_28 rfl 3 rfl ?_
  refine q_aload_n C dX0_extend_29 rfl 2 rfl ?_
  refine q_get C (k := 9) (fi := 5) (.int (nI b.length)) (by omega) q_enBA rfl iX0_extend_5_X0 (by decide) (by decide +kernel) rfl (by rw [← hxt.2.2.2.1]; rfl) dX0_extend_30 ?_
  refine q_icmp_leN C 63 dX0_extend_33 (by decide) (by omega) (by omega) (fun c_33 => ?_) (fun c_33 => ?_)
  · skip
    refine q_sub (lv' := [(0, .ref (σ.2.1 9)), (1, .int (nI 2)), (2, .ref (σ.2.1 16)), (3, .int (nI (q_la r)))]) [2, 3, 1, 0] rfl ?_
    exact J_1 _ (q_xoff_rfl V) (by rw [q_upb_n (by first | exact fun z => by omega | exact fun z => b_41 (by rw [hxt.2.2.1]; exact z.2.2))]; exact hxt)
  · skip
    refine q_aload_n C dX0_extend_36 rfl 2 rfl ?_
    refine q_iload_n C dX0_extend_37 rfl 0 rfl ?_
    refine q_aload_n C dX0_extend_38 rfl 1 rfl ?_
    refine q_iconst C (nI 0) dX0_extend_39 (by decide) ?_
    refine q_ialdN C (k := 16) (n := 7) ⟨by decide, by decide, by decide⟩ (by omega) (by decide) dX0_extend_40 ?_
    refine q_stk (st' := [.int (nI (r.getD 0 0)), .int (nI (q_la r)), .ref (σ.2.1 9)]) (congrArg (fun z => Value.int z :: [.int (nI (q_la r)), .ref (σ.2.1 9)]) (hxt.1 0 (by omega))) ?_
    refine q_callVi C (As := [.int (nI (q_la r)), .int (nI (r.getD 0 0))]) (rest := []) (k := 9) (by omega) q_enBA rfl rfl (kX0_getsFrom l σ V G (a := q_la r) (b := r.getD 0 0) (by omega) (by omega)) 2 gX0_extend_X0_getsFrom rfl rfl rfl (by decide +kernel) ⟨Nat.le_of_ble_eq_true rfl, Nat.le_of_ble_eq_true rfl⟩ dX0_extend_41 rfl (Nat.le_of_ble_eq_true rfl) ⟨Nat.le_of_ble_eq_true rfl, Nat.le_of_ble_eq_true rfl⟩ (fun r_41 V_9 G_10 hq_41 => ?_)
    obtain ⟨hs_41, rfl, rfl⟩ := hq_41
    refine q_if_eq C 63 dX0_extend_44 (by decide) (fun c_44 => ?_) (fun c_44 => ?_)
    · skip
      have b_41 := (q_is_eq hs_41).mp c_44
      refine q_sub (lv' := [(0, .ref (σ.2.1 9)), (1, .int (nI 2)), (2, .ref (σ.2.1 16)), (3, .int (nI (q_la r)))]) [2, 3, 1, 0] rfl ?_
      exact J_1 _ (q_xoff_rfl V) (by rw [q_upb_n (by first | exact fun z => by omega | exact fun z => b_41 (by rw [hxt.2.2.1]; exact z.2.2))]; exact hxt)
    · skip
      have b_41 := (q_is_ne hs_41).mp c_44
      refine q_aload_n C dX0_extend_47 rfl 1 rfl ?_
      refine q_iconst C (nI 0) dX0_extend_48 (by decide) ?_
      refine q_aload_n C dX0_extend_49 rfl 2 rfl ?_
      refine q_get C (k := 9) (fi := 4) (.ref (σ.2.1 17)) (by omega) q_enBA rfl iX0_extend_5_X0 (by decide) (by decide +kernel) rfl rfl dX0_extend_50 ?_
      refine q_iconst C (nI 0) dX0_extend_53 (by decide) ?_
      refine q_iload_n C dX0_extend_54 rfl 3 rfl ?_
      refine q_copyI C (k1 := 16) (k2 := 17) (n1 := 7) (n2 := 7) (n := 2) ⟨by decide, by decide, by decide⟩ ⟨by decide, by decide, by decide⟩ (by omega) (by omega) (by omega) (by decide +kernel) (by decide +kernel) (by decide +kernel) (by decide +kernel) (Nat.le_of_ble_eq_true rfl) (Nat.le_of_ble_eq_true rfl) dX0_extend_55 ?_
      refine q_aload_n C dX0_extend_58 rfl 2 rfl ?_
      refine q_iload_n C dX0_extend_59 rfl 3 rfl ?_
      refine q_put C (k := 9) (fi := 5) tyX0 tyX0_ok nmX0 (by omega) q_enBA rfl iX0_extend_5_X0 (by decide) (by decide +kernel) rfl rfl (by decide +kernel) (Nat.le_of_ble_eq_true rfl) (q_enBA |>.trans (by simp [q_up])) dX0_extend_60 ?_
      refine q_sub (lv' := [(0, .ref (σ.2.1 9)), (1, .int (nI 2)), (2, .ref (σ.2.1 16)), (3, .int (nI (q_la r)))]) [2, 3, 1, 0] rfl ?_
      exact J_1 _ (q_xoff_take V 2 _) (by rw [q_upb_y (by omega) (hxt.2.2.1 ▸ b_41) (by omega)]; exact q_xt_take hrl hxt)
abbrev rX0_extend_6 : Room := { frames := 8, cells := 0, slots := 0, locals := 344 }
theorem iX0_extend_6_X0 : ∀ w ∈ u_ws RX0 TX0 6, w ∈ wsX0_extend := by decide +kernel
set_option maxHeartbeats 4000000 in
set_option maxRecDepth 100000 in
/-- Barter.extend, a row of 1 -/
theorem kX0_extend_6 (l : Launch) (σ : q_E) (V : q_V) (G : q_G) {rd : Nat → Prop} {gt : Nat → Nat → Prop} {r b : List Nat} (hrl : r.length = 1) (hr7 : ∀ i, i < r.length → r.getD i 0 < 7) (hb7 : b.length ≤ 7) (hxt : q_xt V rd gt r b) : q_Mv l yX0_extend wsX0_extend rX0_extend_6 σ [.ref (σ.2.1 9), .int (nI 1)] V G (fun V' G' => q_xoff V V' ∧ q_xt V' rd gt r (q_ch rd gt 6 r (q_upb gt b r)) ∧ G = G') 0 0 := by
  refine q_Mv_of (cc := cX0_extend) (maxL := 5) (lv := [(0, .ref (σ.2.1 9)), (1, .int (nI 1))]) (by decide +kernel) rfl (Nat.le_of_ble_eq_true rfl) rfl ?_
  intro p e s m args below meth c Q C hR
  have hla7 : q_la r < 7 := hr7 (r.length - 1) (by omega)
  have hhd7 : r.getD 0 0 < 7 := hr7 0 (by omega)
  refine q_iload_n C dX0_extend_0 rfl 1 rfl ?_
  refine q_iconst C (nI 1) dX0_extend_1 (by decide) ?_
  refine q_icmp_ltN C 11 dX0_extend_2 (by decide) (by omega) (by omega) (fun c_2 => absurd c_2 (by omega)) (fun c_2 => ?_)
  refine q_iload_n C dX0_extend_5 rfl 1 rfl ?_
  refine q_bipush C (nI 7) dX0_extend_6 (by decide) ?_
  refine q_icmp_leN C 12 dX0_extend_8 (by decide) (by omega) (by omega) (fun c_8 => ?_) (fun c_8 => absurd c_8 (by omega))
  refine q_aload_n C dX0_extend_12 rfl 0 rfl ?_
  refine q_get C (k := 9) (fi := 3) (.ref (σ.2.1 16)) (by omega) q_enBA rfl iX0_extend_6_X0 (by decide) (by decide +kernel) rfl rfl dX0_extend_13 ?_
  refine q_astore_n C [(2, .ref (σ.2.1 16)), (0, .ref (σ.2.1 9)), (1, .int (nI 1))] dX0_extend_16 rfl (by decide) rfl ?_
  refine q_aload_n C dX0_extend_17 rfl 0 rfl ?_
  refine q_iload_n C dX0_extend_18 rfl 2 rfl ?_
  refine q_iconst C (nI 1) dX0_extend_19 (by decide) ?_
  refine q_isubN C dX0_extend_20 (by omega) ?_
  refine q_ialdN C (k := 16) (n := 7) ⟨by decide, by decide, by decide⟩ (by omega) (by decide) dX0_extend_21 ?_
  refine q_stk (st' := [.int (nI (q_la r))]) (congrArg (fun z => Value.int z :: []) ((hxt.1 0 (by omega)).trans (by rw [q_la, hrl]))) ?_
  refine q_istore_n C [(3, .int (nI (q_la r))), (2, .ref (σ.2.1 16)), (0, .ref (σ.2.1 9)), (1, .int (nI 1))] dX0_extend_22 rfl (by decide) rfl ?_
  have J_1 : ∀ (U : q_V) (hU : q_xoff V U) (hxt : q_xt U rd gt r (q_upb gt b r)), q_W σ p l e rX0_extend_6 s m args below meth c Q 5 0 0 U G [(0, .ref (σ.2.1 9)), (1, .int (nI 1)), (2, .ref (σ.2.1 16)), (3, .int (nI (q_la r)))] 63 [] := by
    intro U hU hxt
    refine q_aload_n C dX0_extend_63 rfl 2 rfl ?_
    refine q_iconst C (nI 0) dX0_extend_64 (by decide) ?_
    refine q_ialdN C (k := 16) (n := 7) ⟨by decide, by decide, by decide⟩ (by omega) (by decide) dX0_extend_65 ?_
    refine q_stk (st' := [.int (nI (r.getD 0 0))]) (congrArg (fun z => Value.int z :: []) (hxt.1 0 (by omega))) ?_
    refine q_iconst C (nI 1) dX0_extend_66 (by decide) ?_
    refine q_iaddN C dX0_extend_67  ?_
    refine q_istore C [(4, .int (nI ((r.getD 0 0) + 1))), (0, .ref (σ.2.1 9)), (1, .int (nI 1)), (2, .ref (σ.2.1 16)), (3, .int (nI (q_la r)))] dX0_extend_68 (by decide) rfl ?_
    have L_2 : ∀ (nL_2 : Nat) (U : q_V) (j : Nat) (b' : List Nat) (hU : q_xoff V U) (hxt : q_xt U rd gt r b') (hb7' : b'.length ≤ 7) (hj : j ≤ 7) (hj0 : r.getD 0 0 < j) (hch : q_ch rd gt 6 r (q_upb gt b r) = q_chs (q_stp rd gt 5 r) (7 - j) j b'), 7 - j < nL_2 → q_W σ p l e rX0_extend_6 s m args below meth c Q 5 0 0 U G [(4, .int (nI j)), (0, .ref (σ.2.1 9)), (1, .int (nI 1)), (2, .ref (σ.2.1 16)), (3, .int (nI (q_la r)))] 70 [] := by
      intro nL_2
      induction nL_2 with
      | zero => intro U j b' hU hxt hb7' hj hj0 hch h; exact absurd h (Nat.not_lt_zero _)
      | succ nL_2 ihL_2 =>
        intro U j b' hU hxt hb7' hj hj0 hch hmL_2
        refine q_iload C dX0_extend_70 0 rfl ?_
        refine q_bipush C (nI 7) dX0_extend_72 (by decide) ?_
        refine q_icmp_geN C 131 dX0_extend_74 (by decide) (by omega) (by omega) (fun c_74 => ?_) (fun c_74 => ?_)
        · skip
          refine hR _ _ _ _ _ _ ?_ (Nat.le_of_ble_eq_true rfl) (Nat.le_of_ble_eq_true rfl) dX0_extend_131
          obtain rfl : j = 7 := by omega
          rw [hch]
          exact ⟨hU, hxt, rfl⟩
        · skip
          refine q_iload_n C dX0_extend_77 rfl 2 rfl ?_
          refine q_bipush C (nI 7) dX0_extend_78 (by decide) ?_
          refine q_icmp_geN C 131 dX0_extend_80 (by decide) (by omega) (by omega) (fun c_80 => absurd c_80 (by omega)) (fun c_80 => ?_)
          refine q_aload_n C dX0_extend_83 rfl 1 rfl ?_
          refine q_get C (k := 9) (fi := 2) (.ref (σ.2.1 15)) (by omega) q_enBA rfl iX0_extend_6_X0 (by decide) (by decide +kernel) rfl rfl dX0_extend_84 ?_
          refine q_iload C dX0_extend_87 0 rfl ?_
          refine q_zaldN C (by omega) dX0_extend_89 ?_
          refine q_if_eq C 125 dX0_extend_90 (by decide) (fun c_90 => ?_) (fun c_90 => ?_)
          · skip
            have hrdj : ¬ rd j := fun z => by rw [hxt.2.1 j (by omega), q_w01_y z] at c_90; exact absurd c_90 (by decide)
            refine q_iincN C [(4, .int (nI (j + 1))), (0, .ref (σ.2.1 9)), (1, .int (nI 1)), (2, .ref (σ.2.1 16)), (3, .int (nI (q_la r)))] dX0_extend_125 0 rfl (by decide) rfl ?_
            refine q_goto C 70 dX0_extend_128 (by decide) ?_
            refine q_sub (lv' := [(4, .int (nI (j + 1))), (0, .ref (σ.2.1 9)), (1, .int (nI 1)), (2, .ref (σ.2.1 16)), (3, .int (nI (q_la r)))]) [0, 1, 2, 3, 4] rfl ?_
            exact ihL_2 _ (j + 1) _ hU hxt hb7' (by omega) (by omega) ((hch.trans (q_chs_step (by omega))).trans (congrArg (q_chs _ _ _) (q_stp_n (fun z => by have z9 := q_row_un (by omega) z; first | exact hrdj z9.1 | exact b_97 (by rw [hxt.2.2.1]; exact z9.2.2.2) | (obtain ⟨i, hi, e⟩ := b_107; exact z9.2.2.1 i hi e))))) (by omega)
          · skip
            have hrdj : rd j := Classical.byContradiction fun z => c_90 (by rw [hxt.2.1 j (by omega), q_w01_n z])
            refine q_aload_n C dX0_extend_93 rfl 1 rfl ?_
            refine q_iload_n C dX0_extend_94 rfl 4 rfl ?_
            refine q_iload C dX0_extend_95 0 rfl ?_
            refine q_callVi C (As := [.int (nI (q_la r)), .int (nI j)]) (rest := []) (k := 9) (by omega) q_enBA rfl rfl (kX0_getsFrom l σ U G (a := q_la r) (b := j) (by omega) (by omega)) 2 gX0_extend_X0_getsFrom rfl rfl rfl (by decide +kernel) ⟨Nat.le_of_ble_eq_true rfl, Nat.le_of_ble_eq_true rfl⟩ dX0_extend_97 rfl (Nat.le_of_ble_eq_true rfl) ⟨Nat.le_of_ble_eq_true rfl, Nat.le_of_ble_eq_true rfl⟩ (fun r_97 V_3 G_4 hq_97 => ?_)
            obtain ⟨hs_97, rfl, rfl⟩ := hq_97
            refine q_if_eq C 125 dX0_extend_100 (by decide) (fun c_100 => ?_) (fun c_100 => ?_)
            · skip
              have b_97 := (q_is_eq hs_97).mp c_100
              refine q_iincN C [(4, .int (nI (j + 1))), (0, .ref (σ.2.1 9)), (1, .int (nI 1)), (2, .ref (σ.2.1 16)), (3, .int (nI (q_la r)))] dX0_extend_125 0 rfl (by decide) rfl ?_
              refine q_goto C 70 dX0_extend_128 (by decide) ?_
              refine q_sub (lv' := [(4, .int (nI (j + 1))), (0, .ref (σ.2.1 9)), (1, .int (nI 1)), (2, .ref (σ.2.1 16)), (3, .int (nI (q_la r)))]) [0, 1, 2, 3, 4] rfl ?_
              exact ihL_2 _ (j + 1) _ hU hxt hb7' (by omega) (by omega) ((hch.trans (q_chs_step (by omega))).trans (congrArg (q_chs _ _ _) (q_stp_n (fun z => by have z9 := q_row_un (by omega) z; first | exact hrdj z9.1 | exact b_97 (by rw [hxt.2.2.1]; exact z9.2.2.2) | (obtain ⟨i, hi, e⟩ := b_107; exact z9.2.2.1 i hi e))))) (by omega)
            · skip
              have b_97 := (q_is_ne hs_97).mp c_100
              refine q_aload_n C dX0_extend_103 rfl 1 rfl ?_
              refine q_iload C dX0_extend_104 0 rfl ?_
              refine q_iload_n C dX0_extend_106 rfl 2 rfl ?_
              refine q_callVi C (As := [.int (nI j), .int (nI 1)]) (rest := []) (k := 9) (by omega) q_enBA rfl rfl (kX0_isInRow l σ U G (rs := r) (k := j) hrl (by omega) (by omega) hr7 hxt.1) 2 gX0_extend_X0_isInRow rfl rfl rfl (by decide +kernel) ⟨Nat.le_of_ble_eq_true rfl, Nat.le_of_ble_eq_true rfl⟩ dX0_extend_107 rfl (Nat.le_of_ble_eq_true rfl) ⟨Nat.le_of_ble_eq_true rfl, Nat.le_of_ble_eq_true rfl⟩ (fun r_107 V_5 G_6 hq_107 => ?_)
              obtain ⟨hs_107, rfl, rfl⟩ := hq_107
              refine q_if_ne C 125 dX0_extend_110 (by decide) (fun c_110 => ?_) (fun c_110 => ?_)
              · skip
                have b_107 := (q_is_ne hs_107).mp c_110
                refine q_iincN C [(4, .int (nI (j + 1))), (0, .ref (σ.2.1 9)), (1, .int (nI 1)), (2, .ref (σ.2.1 16)), (3, .int (nI (q_la r)))] dX0_extend_125 0 rfl (by decide) rfl ?_
                refine q_goto C 70 dX0_extend_128 (by decide) ?_
                refine q_sub (lv' := [(4, .int (nI (j + 1))), (0, .ref (σ.2.1 9)), (1, .int (nI 1)), (2, .ref (σ.2.1 16)), (3, .int (nI (q_la r)))]) [0, 1, 2, 3, 4] rfl ?_
                exact ihL_2 _ (j + 1) _ hU hxt hb7' (by omega) (by omega) ((hch.trans (q_chs_step (by omega))).trans (congrArg (q_chs _ _ _) (q_stp_n (fun z => by have z9 := q_row_un (by omega) z; first | exact hrdj z9.1 | exact b_97 (by rw [hxt.2.2.1]; exact z9.2.2.2) | (obtain ⟨i, hi, e⟩ := b_107; exact z9.2.2.1 i hi e))))) (by omega)
              · skip
                have b_107 := (q_is_eq hs_107).mp c_110
                refine q_aload_n C dX0_extend_113 rfl 3 rfl ?_
                refine q_iload_n C dX0_extend_114 rfl 2 rfl ?_
                refine q_iload C dX0_extend_115 0 rfl ?_
                refine q_iastN C (k := 16) (n := 7) ⟨by decide, by decide, by decide⟩ (by omega) (by decide) dX0_extend_117 ?_
                refine q_aload_n C dX0_extend_118 rfl 1 rfl ?_
                refine q_iload_n C dX0_extend_119 rfl 2 rfl ?_
                refine q_iconst C (nI 1) dX0_extend_120 (by decide) ?_
                refine q_iaddN C dX0_extend_121  ?_
                refine q_callSv C (As := [.ref (σ.2.1 9), .int (nI (1 + 1))]) (rest := []) (kX0_extend_5 l σ (q_up U 16 1 (nI j)) G (r := r ++ [j]) (b := b') (by rw [q_len_app, hrl]) (q_app_lt hr7 (by omega)) hb7' (q_xt_app hrl hxt j)) 2 gX0_extend_X0_extend rfl rfl rfl (by decide +kernel) ⟨Nat.le_of_ble_eq_true rfl, Nat.le_of_ble_eq_true rfl⟩ dX0_extend_122 rfl (Nat.le_of_ble_eq_true rfl) ⟨Nat.le_of_ble_eq_true rfl, Nat.le_of_ble_eq_true rfl⟩ (fun V_7 G_8 hq_122 => ?_)
                obtain ⟨hU2_122, hx2_122, rfl⟩ := hq_122
                refine q_iincN C [(4, .int (nI (j + 1))), (0, .ref (σ.2.1 9)), (1, .int (nI 1)), (2, .ref (σ.2.1 16)), (3, .int (nI (q_la r)))] dX0_extend_125 0 rfl (by decide) rfl ?_
                refine q_goto C 70 dX0_extend_128 (by decide) ?_
                refine q_sub (lv' := [(4, .int (nI (j + 1))), (0, .ref (σ.2.1 9)), (1, .int (nI 1)), (2, .ref (σ.2.1 16)), (3, .int (nI (q_la r)))]) [0, 1, 2, 3, 4] rfl ?_
                exact ihL_2 _ (j + 1) _ (q_xoff_tr (q_xoff_tr hU (q_xoff_app U _ _)) hU2_122) (q_xt_pre hx2_122) (q_ch_len rd gt _ _ _ (by rw [q_len_app]; omega) (q_upb_len hb7' (by rw [q_len_app]; omega))) (by omega) (by omega) ((hch.trans (q_chs_step (by omega))).trans (congrArg (q_chs _ _ _) (q_stp_y ⟨hrdj, Or.inr ⟨hj0, fun i hi e => b_107 ⟨i, hi, e⟩, hxt.2.2.1 ▸ b_97⟩⟩))) (by omega)
    refine q_sub (lv' := [(4, .int (nI ((r.getD 0 0) + 1))), (0, .ref (σ.2.1 9)), (1, .int (nI 1)), (2, .ref (σ.2.1 16)), (3, .int (nI (q_la r)))]) [0, 1, 2, 3, 4] rfl ?_
    exact L_2 _ U (r.getD 0 0 + 1) _ hU hxt (q_upb_len hb7 (by omega)) (by omega) (by omega) (q_chs_skip (by omega) hhd7) (Nat.lt_succ_self _)
  refine q_iload_n C dX0_extend_23 rfl 3 rfl ?_
  refine q_iconst C (nI 1) dX0_extend_24 (by decide) ?_
  refine q_icmp_leN C 63 dX0_extend_25 (by decide) (by omega) (by omega) (fun c_25 => ?_) (fun c_25 => absurd c_25 (by omega))
  refine q_sub (lv' := [(0, .ref (σ.2.1 9)), (1, .int (nI 1)), (2, .ref (σ.2.1 16)), (3, .int (nI (q_la r)))]) [2, 3, 1, 0] rfl ?_
  exact J_1 _ (q_xoff_rfl V) (by rw [q_upb_n (by first | exact fun z => by omega | exact fun z => b_41 (by rw [hxt.2.2.1]; exact z.2.2))]; exact hxt)
