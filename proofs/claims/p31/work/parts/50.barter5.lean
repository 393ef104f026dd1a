theorem kX0_nextOrderA (l : Launch) (σ : q_E) (V : q_V) (G : q_G) {t : List Nat} {u : Nat} (hm : t.length = u) (hm7 : u ≤ 7) (hr : q_rw V t) (hb : q_b7 t) : q_Mi l yX0_nextOrder wsX0_nextOrder rX0_nextOrder σ [.ref (σ.2.1 9), .int (nI u)] V G (fun r V' G' => ((q_nxt t = none ∧ (0 : Int32) = r ∧ V = V') ∨ (∃ t', q_nxt t = some t' ∧ (1 : Int32) = r ∧ q_o16 V V' ∧ q_rw V' t' ∧ q_b7 t' ∧ t'.length = u)) ∧ G = G') 0 0 := by
  match u, hm, hm7 with
  | 0, hm, _ => exact kX0_nextOrder_0 l σ V G hm hr hb
  | 1, hm, _ => exact kX0_nextOrder_1 l σ V G hm hr hb
  | u + 2, hm, h7 => exact kX0_nextOrder l σ V G hm hr hb h7
noncomputable def q_rlj (rd : Nat → Prop) (j : Nat) : List Nat := (List.range j).filter (fun a => @decide (rd a) (Classical.propDecidable _))
theorem q_rlj_y {rd : Nat → Prop} {j : Nat} (h : rd j) : q_rlj rd (j + 1) = q_rlj rd j ++ [j] := by
  unfold q_rlj
  rw [List.range_succ, List.filter_append, List.filter_cons_of_pos (p := fun a => @decide (rd a) (Classical.propDecidable _)) ((@decide_eq_true_iff (rd j) (Classical.propDecidable _)).mpr h)]
  rfl
theorem q_rlj_n {rd : Nat → Prop} {j : Nat} (h : ¬ rd j) : q_rlj rd (j + 1) = q_rlj rd j := by
  unfold q_rlj
  rw [List.range_succ, List.filter_append, List.filter_cons_of_neg (p := fun a => @decide (rd a) (Classical.propDecidable _)) (fun z => h ((@decide_eq_true_iff (rd j) (Classical.propDecidable _)).mp z))]
  exact List.append_nil _
theorem q_rlj_len (rd : Nat → Prop) (j : Nat) : (q_rlj rd j).length ≤ j := by
  have h := List.length_filter_le (fun a => @decide (rd a) (Classical.propDecidable _)) (List.range j)
  rw [List.length_range] at h
  exact h
theorem q_rw_app {U : q_V} {t : List Nat} {n : Nat} (hn : n = t.length) (h : q_rw U t) (k : Nat) : q_rw (q_up U 16 n (nI k)) (t ++ [k]) := by
  intro i hi
  rw [q_len_app] at hi
  subst hn
  rcases Nat.lt_or_ge i t.length with q | q
  · rw [q_gd_lt q, q_up_ne _ _ (by omega)]; exact h i q
  · rw [show i = t.length by omega, q_gd_eq]; exact q_up_self _ _ _ _
theorem q_boff_16 {V U : q_V} (h : q_boff V U) (n : Nat) (x : Int32) : q_boff V (q_up U 16 n x) := fun a j h1 h2 h3 h4 => (q_up_ne _ _ (fun z => h2 z.1)).trans (h a j h1 h2 h3 h4)
theorem q_boff_o16 {V W U : q_V} (h : q_boff V W) (h2 : q_o16 W U) : q_boff V U := fun a j h1 h3 h4 h5 => (congrFun (h2 a h3) j).trans (h a j h1 h3 h4 h5)
theorem q_boff_rdy (V : q_V) (n : Nat) : q_boff V (q_rdy V n) := fun a j h1 _ _ _ => congrFun (q_rdy_off V n h1) j
theorem q_cgt_boff {V U : q_V} (h : q_boff V U) : q_cgt U = q_cgt V := by
  funext a b
  unfold q_cgt
  rw [h 14 a (by decide) (by decide) (by decide) (by omega), h 13 b (by decide) (by decide) (by decide) (by omega)]
def q_mx (a b : Nat) : Nat := if a < b then b else a
theorem q_mx_nI {a b : Nat} (ha : a < 2 ^ 31) (hb : b < 2 ^ 31) : (if nI a < nI b then nI b else nI a) = nI (q_mx a b) := by
  unfold q_mx
  by_cases h : a < b
  · rw [if_pos h, if_pos ((nI_ltI ha hb).mpr h)]
  · rw [if_neg h, if_neg (fun z => h ((nI_ltI ha hb).mp z))]
theorem q_mx_l (a b : Nat) : a ≤ q_mx a b := by unfold q_mx; split <;> omega
theorem q_mx_r (a b : Nat) : b ≤ q_mx a b := by unfold q_mx; split <;> omega
theorem q_mx_or (a b : Nat) : q_mx a b = a ∨ q_mx a b = b := by unfold q_mx; split <;> omega
def q_all (rd : Nat → Prop) (L : List (List Nat)) : Prop := L = q_perms (q_rl rd).length (q_rl rd)
/-- the orders tried so far, the one that stands in the row, those to come -/
def q_ost (rd : Nat → Prop) (gt : Nat → Nat → Prop) (W : q_V) (n ord : Nat) : Prop := ∃ pre row suf, q_all rd (pre ++ row :: suf) ∧ ord = pre.length ∧ q_path (row :: suf) row (q_rl rd).reverse ∧ q_rw W row ∧ (∀ t ∈ pre, ∀ k, q_cyc gt t k → k ≤ n) ∧ (n = 0 ∨ ∃ t ∈ pre ++ row :: suf, q_cyc gt t n)
theorem q_fa_le {n : Nat} (h : n ≤ 7) : q_fa n ≤ 5040 := by
  have h9 : ∀ k : Fin 8, q_fa k.val ≤ 5040 := by decide
  exact h9 ⟨n, by omega⟩
theorem q_all_len {rd : Nat → Prop} {L : List (List Nat)} (h : q_all rd L) : L.length ≤ 5040 := by
  unfold q_all at h
  rw [h, q_perms_len _ _ rfl (q_rl_sel rd)]
  exact q_fa_le (q_rl_len rd)
theorem q_ost_lt {rd : Nat → Prop} {gt : Nat → Nat → Prop} {W : q_V} {n ord : Nat} (h : q_ost rd gt W n ord) : ord < 5040 := by
  obtain ⟨pre, row, suf, h1, h2, -⟩ := h
  have h9 := q_all_len h1
  rw [List.length_append, List.length_cons] at h9
  omega
theorem q_ost_0 {rd : Nat → Prop} {gt : Nat → Nat → Prop} {W : q_V} (h : q_rw W (q_rl rd)) : q_ost rd gt W 0 0 := by
  have hp := q_perms_path _ (q_rl rd) rfl (q_rl_sel rd)
  cases hL : q_perms (q_rl rd).length (q_rl rd) with
  | nil => rw [hL] at hp; exact hp.elim
  | cons a t =>
    rw [hL] at hp
    have e : a = q_rl rd := hp.1
    subst e
    exact ⟨[], _, t, hL.symm, rfl, hp, h, fun t ht => absurd ht List.not_mem_nil, Or.inl rfl⟩
theorem q_ost_next {rd : Nat → Prop} {gt : Nat → Nat → Prop} {W : q_V} {n n8 ord : Nat} {pre suf : List (List Nat)} {row : List Nat} (hL : q_all rd (pre ++ row :: suf)) (ho : ord = pre.length) (hp : q_path (row :: suf) row (q_rl rd).reverse) (hm : ∀ t ∈ pre, ∀ k, q_cyc gt t k → k ≤ n) (hc : n = 0 ∨ ∃ t ∈ pre ++ row :: suf, q_cyc gt t n)
    (hc8 : n8 = 0 ∨ q_cyc gt row n8) (hm8 : ∀ k, q_cyc gt row k → k ≤ n8) : (q_nxt row = none → q_mx n n8 = (q_best rd gt).length) ∧ ∀ t', q_nxt row = some t' → q_rw W t' → q_ost rd gt W (q_mx n n8) (ord + 1) := by
  have hc2 : q_mx n n8 = 0 ∨ ∃ t ∈ pre ++ row :: suf, q_cyc gt t (q_mx n n8) := by
    rcases q_mx_or n n8 with e | e
    · rw [e]; exact hc
    · rw [e]
      rcases hc8 with h | h
      · exact Or.inl h
      · exact Or.inr ⟨row, List.mem_append_right _ List.mem_cons_self, h⟩
  have hm2 : ∀ t ∈ pre ++ [row], ∀ k, q_cyc gt t k → k ≤ q_mx n n8 := by
    intro t ht k hk
    rcases List.mem_append.mp ht with h | h
    · exact Nat.le_trans (hm t h k hk) (q_mx_l _ _)
    · rw [List.mem_singleton.mp h] at hk
      exact Nat.le_trans (hm8 k hk) (q_mx_r _ _)
  constructor
  · intro hn
    rcases hp.2 with ⟨h1, h2⟩ | ⟨b, hb, -⟩
    · subst h1
      unfold q_all at hL
      exact q_done (fun t ht k hk => hm2 t (by rw [← hL] at ht; exact ht) k hk) (hc2.imp id (fun ⟨t, ht, h⟩ => ⟨t, by rw [← hL]; exact ht, h⟩))
    · rw [hn] at hb; cases hb
  · intro t' ht' hr
    rcases hp.2 with ⟨h1, h2⟩ | ⟨b, hb, h3⟩
    · rw [h2, (q_sel_un (q_rl_sel rd)).2.1] at ht'; cases ht'
    · rw [ht'] at hb
      cases Option.some.inj hb
      cases suf with
      | nil => exact h3.elim
      | cons a s =>
        have e : a = t' := h3.1
        subst e
        have ea : pre ++ row :: a :: s = (pre ++ [row]) ++ a :: s := by simp
        rw [ea] at hL hc2
        exact ⟨pre ++ [row], a, s, hL, by rw [List.length_append]; show ord + 1 = pre.length + 1; rw [ho], h3, hr, hm2, hc2⟩
theorem q_all_row {rd : Nat → Prop} {pre suf : List (List Nat)} {row : List Nat} (h : q_all rd (pre ++ row :: suf)) : row.length = (q_rl rd).length ∧ q_b7 row := by
  have hm : row ∈ q_perms (q_rl rd).length (q_rl rd) := by
    unfold q_all at h
    rw [← h]
    exact List.mem_append_right _ List.mem_cons_self
  obtain ⟨h1, h2, -⟩ := q_perms_is _ _ _ hm
  exact ⟨h1, fun i hi => (q_rl_mem.mp (h2 _ (q_gd_mem hi))).1⟩
abbrev rX0_longestAtStartOfRow : Room := { frames := 2, cells := 0, slots := 0, locals := 34 }
theorem iX0_longestAtStartOfRow_X0 : ∀ w ∈ u_ws RX0 TX0 6, w ∈ wsX0_longestAtStartOfRow := by decide +kernel
set_option maxHeartbeats 4000000 in
set_option maxRecDepth 100000 in
/-- Barter.longestAtStartOfRow -/
theorem kX0_longestAtStartOfRow (l : Launch) (σ : q_E) (V : q_V) (G : q_G) {t : List Nat} {u : Nat} (hm : t.length = u) (h7 : u ≤ 7) (hr : q_rw V t) (hb : q_b7 t) : q_Mi l yX0_longestAtStartOfRow wsX0_longestAtStartOfRow rX0_longestAtStartOfRow σ [.ref (σ.2.1 9), .int (nI u)] V G (fun r V' G' => (∃ n, nI n = r ∧ (n = 0 ∨ q_cyc (q_cgt V) t n) ∧ ∀ k, q_cyc (q_cgt V) t k → k ≤ n) ∧ V = V' ∧ G = G') 0 0 := by
  refine q_Mi_of (cc := cX0_longestAtStartOfRow) (maxL := 4) (lv := [(0, .ref (σ.2.1 9)), (1, .int (nI u))]) (by decide +kernel) rfl (Nat.le_of_ble_eq_true rfl) rfl ?_
  intro p e s m args below meth c Q C hR
  refine q_iconst C (nI 0) dX0_longestAtStartOfRow_0 (by decide) ?_
  refine q_istore_n C [(2, .int (nI 0)), (0, .ref (σ.2.1 9)), (1, .int (nI u))] dX0_longestAtStartOfRow_1 rfl (by decide) rfl ?_
  refine q_iconst C (nI 2) dX0_longestAtStartOfRow_2 (by decide) ?_
  refine q_istore_n C [(3, .int (nI 2)), (2, .int (nI 0)), (0, .ref (σ.2.1 9)), (1, .int (nI u))] dX0_longestAtStartOfRow_3 rfl (by decide) rfl ?_
  have L_1 : ∀ (nL_1 : Nat) (n9 len : Nat) (hl2 : 2 ≤ len) (hlu : len ≤ u + 2) (hn : n9 < len) (hc : n9 = 0 ∨ q_cyc (q_cgt V) t n9) (hmx : ∀ k, k < len → q_cyc (q_cgt V) t k → k ≤ n9) (hch : ∀ i, i + 2 < len → q_cgt V (t.getD i 0) (t.getD (i + 1) 0)), u + 2 - len < nL_1 → q_W σ p l e rX0_longestAtStartOfRow s m args below meth c Q 4 0 0 V G [(2, .int (nI n9)), (3, .int (nI len)), (0, .ref (σ.2.1 9)), (1, .int (nI u))] 4 [] := by
    intro nL_1
    induction nL_1 with
    | zero => intro n9 len hl2 hlu hn hc hmx hch h; exact absurd h (Nat.not_lt_zero _)
    | succ nL_1 ihL_1 =>
      intro n9 len hl2 hlu hn hc hmx hch hmL_1
      refine q_iload_n C dX0_longestAtStartOfRow_4 rfl 1 rfl ?_
      refine q_iload_n C dX0_longestAtStartOfRow_5 rfl 3 rfl ?_
      refine q_icmp_gtN C 61 dX0_longestAtStartOfRow_6 (by decide) (by omega) (by omega) (fun c_6 => ?_) (fun c_6 => ?_)
      · skip
        refine q_iload_n C dX0_longestAtStartOfRow_61 rfl 0 rfl ?_
        refine hR _ _ _ _ _ _ _ ?_ rfl (Nat.le_of_ble_eq_true rfl) (Nat.le_of_ble_eq_true rfl) dX0_longestAtStartOfRow_62
        refine ⟨⟨n9, rfl, hc, fun k hq => ?_⟩, rfl, rfl⟩
        by_cases e : k < len
        · exact hmx k e hq
        · first | (have := hq.2.1; omega) | exact absurd (hq.2.2.1 (len - 2) (by omega)) (by rw [show len - 2 + 1 = len - 1 by omega]; exact b_26)
      · skip
        refine q_aload_n C dX0_longestAtStartOfRow_9 rfl 2 rfl ?_
        refine q_aload_n C dX0_longestAtStartOfRow_10 rfl 2 rfl ?_
        refine q_get C (k := 9) (fi := 3) (.ref (σ.2.1 16)) (by omega) q_enBA rfl iX0_longestAtStartOfRow_X0 (by decide) (by decide +kernel) rfl rfl dX0_longestAtStartOfRow_11 ?_
        refine q_iload_n C dX0_longestAtStartOfRow_14 rfl 1 rfl ?_
        refine q_iconst C (nI 2) dX0_longestAtStartOfRow_15 (by decide) ?_
        refine q_isubN C dX0_longestAtStartOfRow_16 (by omega) ?_
        refine q_ialdN C (k := 16) (n := 7) ⟨by decide, by decide, by decide⟩ (by omega) (by decide) dX0_longestAtStartOfRow_17 ?_
        refine q_stk (st' := [.int (nI (t.getD (len - 2) 0)), .ref (σ.2.1 9)]) (congrArg (fun z => Value.int z :: [.ref (σ.2.1 9)]) (hr (len - 2) (by omega))) ?_
        refine q_aload_n C dX0_longestAtStartOfRow_18 rfl 2 rfl ?_
        refine q_get C (k := 9) (fi := 3) (.ref (σ.2.1 16)) (by omega) q_enBA rfl iX0_longestAtStartOfRow_X0 (by decide) (by decide +kernel) rfl rfl dX0_longestAtStartOfRow_19 ?_
        refine q_iload_n C dX0_longestAtStartOfRow_22 rfl 1 rfl ?_
        refine q_iconst C (nI 1) dX0_longestAtStartOfRow_23 (by decide) ?_
        refine q_isubN C dX0_longestAtStartOfRow_24 (by omega) ?_
        refine q_ialdN C (k := 16) (n := 7) ⟨by decide, by decide, by decide⟩ (by omega) (by decide) dX0_longestAtStartOfRow_25 ?_
        refine q_stk (st' := [.int (nI (t.getD (len - 1) 0)), .int (nI (t.getD (len - 2) 0)), .ref (σ.2.1 9)]) (congrArg (fun z => Value.int z :: [.int (nI (t.getD (len - 2) 0)), .ref (σ.2.1 9)]) (hr (len - 1) (by omega))) ?_
        refine q_callVi C (As := [.int (nI (t.getD (len - 2) 0)), .int (nI (t.getD (len - 1) 0))]) (rest := []) (k := 9) (by omega) q_enBA rfl rfl (kX0_getsFrom l σ V G (a := t.getD (len - 2) 0) (b := t.getD (len - 1) 0) (hb _ (by omega)) (hb _ (by omega))) 2 gX0_longestAtStartOfRow_X0_getsFrom rfl rfl rfl (by decide +kernel) ⟨Nat.le_of_ble_eq_true rfl, Nat.le_of_ble_eq_true rfl⟩ dX0_longestAtStartOfRow_26 rfl (Nat.le_of_ble_eq_true rfl) ⟨Nat.le_of_ble_eq_true rfl, Nat.le_of_ble_eq_true rfl⟩ (fun r_26 V_2 G_3 hq_26 => ?_)
        obtain ⟨hs_26, rfl, rfl⟩ := hq_26
        refine q_if_eq C 61 dX0_longestAtStartOfRow_29 (by decide) (fun c_29 => ?_) (fun c_29 => ?_)
        · skip
          have b_26 := (q_is_eq hs_26).mp c_29
          refine q_iload_n C dX0_longestAtStartOfRow_61 rfl 0 rfl ?_
          refine hR _ _ _ _ _ _ _ ?_ rfl (Nat.le_of_ble_eq_true rfl) (Nat.le_of_ble_eq_true rfl) dX0_longestAtStartOfRow_62
          refine ⟨⟨n9, rfl, hc, fun k hq => ?_⟩, rfl, rfl⟩
          by_cases e : k < len
          · exact hmx k e hq
          · first | (have := hq.2.1; omega) | exact absurd (hq.2.2.1 (len - 2) (by omega)) (by rw [show len - 2 + 1 = len - 1 by omega]; exact b_26)
        · skip
          have b_26 := (q_is_ne hs_26).mp c_29
          refine q_aload_n C dX0_longestAtStartOfRow_32 rfl 2 rfl ?_
          refine q_aload_n C dX0_longestAtStartOfRow_33 rfl 2 rfl ?_
          refine q_get C (k := 9) (fi := 3) (.ref (σ.2.1 16)) (by omega) q_enBA rfl iX0_longestAtStartOfRow_X0 (by decide) (by decide +kernel) rfl rfl dX0_longestAtStartOfRow_34 ?_
          refine q_iload_n C dX0_longestAtStartOfRow_37 rfl 1 rfl ?_
          refine q_iconst C (nI 1) dX0_longestAtStartOfRow_38 (by decide) ?_
          refine q_isubN C dX0_longestAtStartOfRow_39 (by omega) ?_
          refine q_ialdN C (k := 16) (n := 7) ⟨by decide, by decide, by decide⟩ (by omega) (by decide) dX0_longestAtStartOfRow_40 ?_
          refine q_stk (st' := [.int (nI (t.getD (len - 1) 0)), .ref (σ.2.1 9)]) (congrArg (fun z => Value.int z :: [.ref (σ.2.1 9)]) (hr (len - 1) (by omega))) ?_
          refine q_aload_n C dX0_longestAtStartOfRow_41 rfl 2 rfl ?_
          refine q_get C (k := 9) (fi := 3) (.ref (σ.2.1 16)) (by omega) q_enBA rfl iX0_longestAtStartOfRow_X0 (by decide) (by decide +kernel) rfl rfl dX0_longestAtStartOfRow_42 ?_
          refine q_iconst C (nI 0) dX0_longestAtStartOfRow_45 (by decide) ?_
          refine q_ialdN C (k := 16) (n := 7) ⟨by decide, by decide, by decide⟩ (by omega) (by decide) dX0_longestAtStartOfRow_46 ?_
          refine q_stk (st' := [.int (nI (t.getD 0 0)), .int (nI (t.getD (len - 1) 0)), .ref (σ.2.1 9)]) (congrArg (fun z => Value.int z :: [.int (nI (t.getD (len - 1) 0)), .ref (σ.2.1 9)]) (hr 0 (by omega))) ?_
          refine q_callVi C (As := [.int (nI (t.getD (len - 1) 0)), .int (nI (t.getD 0 0))]) (rest := []) (k := 9) (by omega) q_enBA rfl rfl (kX0_getsFrom l σ V G (a := t.getD (len - 1) 0) (b := t.getD 0 0) (hb _ (by omega)) (hb _ (by omega))) 2 gX0_longestAtStartOfRow_X0_getsFrom rfl rfl rfl (by decide +kernel) ⟨Nat.le_of_ble_eq_true rfl, Nat.le_of_ble_eq_true rfl⟩ dX0_longestAtStartOfRow_47 rfl (Nat.le_of_ble_eq_true rfl) ⟨Nat.le_of_ble_eq_true rfl, Nat.le_of_ble_eq_true rfl⟩ (fun r_47 V_4 G_5 hq_47 => ?_)
          obtain ⟨hs_47, rfl, rfl⟩ := hq_47
          refine q_if_eq C 55 dX0_longestAtStartOfRow_50 (by decide) (fun c_50 => ?_) (fun c_50 => ?_)
          · skip
            have b_47 := (q_is_eq hs_47).mp c_50
            refine q_iincN C [(3, .int (nI (len + 1))), (2, .int (nI n9)), (0, .ref (σ.2.1 9)), (1, .int (nI u))] dX0_longestAtStartOfRow_55 1 rfl (by decide) rfl ?_
            refine q_goto C 4 dX0_longestAtStartOfRow_58 (by decide) ?_
            refine q_sub (lv' := [(2, .int (nI n9)), (3, .int (nI (len + 1))), (0, .ref (σ.2.1 9)), (1, .int (nI u))]) [1, 0, 2, 3] rfl ?_
            exact ihL_1 n9 (len + 1) (by omega) (by omega) (by omega) hc (fun k hk hq => if e : k = len then absurd hq.2.2.2 (by rw [e]; exact b_47) else hmx k (by omega) hq) (fun i hi => if e : i + 2 < len then hch i e else (by rw [show i = len - 2 by omega, show len - 2 + 1 = len - 1 by omega]; exact b_26)) (by omega)
          · skip
            have b_47 := (q_is_ne hs_47).mp c_50
            refine q_iload_n C dX0_longestAtStartOfRow_53 rfl 1 rfl ?_
            refine q_istore_n C [(2, .int (nI len)), (3, .int (nI len)), (0, .ref (σ.2.1 9)), (1, .int (nI u))] dX0_longestAtStartOfRow_54 rfl (by decide) rfl ?_
            refine q_iincN C [(3, .int (nI (len + 1))), (2, .int (nI len)), (0, .ref (σ.2.1 9)), (1, .int (nI u))] dX0_longestAtStartOfRow_55 1 rfl (by decide) rfl ?_
            refine q_goto C 4 dX0_longestAtStartOfRow_58 (by decide) ?_
            refine q_sub (lv' := [(2, .int (nI len)), (3, .int (nI (len + 1))), (0, .ref (σ.2.1 9)), (1, .int (nI u))]) [1, 0, 2, 3] rfl ?_
            exact ihL_1 len (len + 1) (by omega) (by omega) (by omega) (Or.inr ⟨hl2, by omega, (fun i hi => if e : i + 2 < len then hch i e else (by rw [show i = len - 2 by omega, show len - 2 + 1 = len - 1 by omega]; exact b_26)), b_47⟩) (fun k hk _ => by omega) (fun i hi => if e : i + 2 < len then hch i e else (by rw [show i = len - 2 by omega, show len - 2 + 1 = len - 1 by omega]; exact b_26)) (by omega)
  refine q_sub (lv' := [(2, .int (nI 0)), (3, .int (nI 2)), (0, .ref (σ.2.1 9)), (1, .int (nI u))]) [1, 0, 2, 3] rfl ?_
  exact L_1 _ 0 2 (Nat.le_refl _) (by omega) (by omega) (Or.inl rfl) (fun k hk hq => by have := hq.1; omega) (fun i hi => by omega) (Nat.lt_succ_self _)
abbrev rX0_longestByOrders : Room := { frames := 3, cells := 0, slots := 0, locals := 60 }
theorem iX0_longestByOrders_X0 : ∀ w ∈ u_ws RX0 TX0 6, w ∈ wsX0_longestByOrders := by decide +kernel
set_option maxHeartbeats 4000000 in
set_option maxRecDepth 100000 in
/-- Barter.longestByOrders -/
theorem kX0_longestByOrders (l : Launch) (σ : q_E) (V : q_V) (G : q_G) (hw : ∀ a, a < 7 → V 13 a = -1 ∨ ∃ c, c < 8 ∧ V 13 a = nI c) : q_Mi l yX0_longestByOrders wsX0_longestByOrders rX0_longestByOrders σ [.ref (σ.2.1 9), .ref (σ.2.1 1)] V G (fun r V' G' => nI (q_best (q_crd V) (q_cgt V)).length = r ∧ q_boff V V' ∧ G = G') 0 0 := by
  refine q_Mi_of (cc := cX0_longestByOrders) (maxL := 6) (lv := [(0, .ref (σ.2.1 9)), (1, .ref (σ.2.1 1))]) (by decide +kernel) rfl (Nat.le_of_ble_eq_true rfl) rfl ?_
  intro p e s m args below meth c Q C hR
  refine q_aload_n C dX0_longestByOrders_0 rfl 0 rfl ?_
  refine q_aload_n C dX0_longestByOrders_1 rfl 1 rfl ?_
  refine q_callVv C (As := [.ref (σ.2.1 1)]) (rest := []) (k := 9) (by omega) q_enBA rfl rfl (kX0_markReady l σ V G hw) 1 gX0_longestByOrders_X0_markReady rfl rfl rfl (by decide +kernel) ⟨Nat.le_of_ble_eq_true rfl, Nat.le_of_ble_eq_true rfl⟩ dX0_longestByOrders_2 rfl (Nat.le_of_ble_eq_true rfl) ⟨Nat.le_of_ble_eq_true rfl, Nat.le_of_ble_eq_true rfl⟩ (fun V_1 G_2 hq_2 => ?_)
  obtain ⟨rfl, rfl⟩ := hq_2
  refine q_iconst C (nI 0) dX0_longestByOrders_5 (by decide) ?_
  refine q_istore_n C [(2, .int (nI 0)), (0, .ref (σ.2.1 9)), (1, .ref (σ.2.1 1))] dX0_longestByOrders_6 rfl (by decide) rfl ?_
  refine q_iconst C (nI 0) dX0_longestByOrders_7 (by decide) ?_
  refine q_istore_n C [(3, .int (nI 0)), (2, .int (nI 0)), (0, .ref (σ.2.1 9)), (1, .ref (σ.2.1 1))] dX0_longestByOrders_8 rfl (by decide) rfl ?_
  have L_3 : ∀ (nL_3 : Nat) (U : q_V) (cnt j : Nat) (hU : q_boff V U) (hrdy : ∀ a, a < 7 → U 15 a = q_w01 (q_crd V a)) (hrw : q_rw U (q_rlj (q_crd V) j)) (hcnt : cnt = (q_rlj (q_crd V) j).length) (hj : j ≤ 7) (hcj : cnt ≤ j), 7 - j < nL_3 → q_W σ p l e rX0_longestByOrders s m args below meth c Q 6 0 0 U G [(2, .int (nI cnt)), (3, .int (nI j)), (0, .ref (σ.2.1 9)), (1, .ref (σ.2.1 1))] 9 [] := by
    intro nL_3
    induction nL_3 with
    | zero => intro U cnt j hU hrdy hrw hcnt hj hcj h; exact absurd h (Nat.not_lt_zero _)
    | succ nL_3 ihL_3 =>
      intro U cnt j hU hrdy hrw hcnt hj hcj hmL_3
      refine q_iload_n C dX0_longestByOrders_9 rfl 1 rfl ?_
      refine q_bipush C (nI 7) dX0_longestByOrders_10 (by decide) ?_
      refine q_icmp_geN C 40 dX0_longestByOrders_12 (by decide) (by omega) (by omega) (fun c_12 => ?_) (fun c_12 => ?_)
      · skip
        obtain rfl : j = 7 := by omega
        have hcnt7 : cnt ≤ 7 := by rw [hcnt]; exact q_rl_len _
        refine q_iconst C (nI 0) dX0_longestByOrders_40 (by decide) ?_
        refine q_istore_n C [(3, .int (nI 0)), (2, .int (nI cnt)), (0, .ref (σ.2.1 9)), (1, .ref (σ.2.1 1))] dX0_longestByOrders_41 rfl (by decide) rfl ?_
        refine q_iconst C (nI 1) dX0_longestByOrders_42 (by decide) ?_
        refine q_istore C [(4, .int (nI 1)), (3, .int (nI 0)), (2, .int (nI cnt)), (0, .ref (σ.2.1 9)), (1, .ref (σ.2.1 1))] dX0_longestByOrders_43 (by decide) rfl ?_
        refine q_iconst C (nI 0) dX0_longestByOrders_45 (by decide) ?_
        refine q_istore C [(5, .int (nI 0)), (4, .int (nI 1)), (3, .int (nI 0)), (2, .int (nI cnt)), (0, .ref (σ.2.1 9)), (1, .ref (σ.2.1 1))] dX0_longestByOrders_46 (by decide) rfl ?_
        have L_4 : ∀ (nL_4 : Nat) (W : q_V) (n9 ord : Nat) (x : Int32) (hW : q_boff V W) (hs : (x = 0 ∧ n9 = (q_best (q_crd V) (q_cgt V)).length) ∨ (x = 1 ∧ q_ost (q_crd V) (q_cgt V) W n9 ord)) (hn97 : n9 ≤ 7) (hord : ord ≤ 5040), 5040 - ord < nL_4 → q_W σ p l e rX0_longestByOrders s m args below meth c Q 6 0 0 W G [(3, .int (nI n9)), (4, .int x), (5, .int (nI ord)), (0, .ref (σ.2.1 9)), (1, .ref (σ.2.1 1)), (2, .int (nI cnt))] 48 [] := by
          intro nL_4
          induction nL_4 with
          | zero => intro W n9 ord x hW hs hn97 hord h; exact absurd h (Nat.not_lt_zero _)
          | succ nL_4 ihL_4 =>
            intro W n9 ord x hW hs hn97 hord hmL_4
            refine q_iload C dX0_longestByOrders_48 2 rfl ?_
            refine q_sipush C (nI 5040) dX0_longestByOrders_50 (by decide) ?_
            refine q_icmp_geN C 84 dX0_longestByOrders_53 (by decide) (by omega) (by omega) (fun c_53 => ?_) (fun c_53 => ?_)
            · skip
              have hdn : n9 = (q_best (q_crd V) (q_cgt V)).length := by
                rcases hs with ⟨-, e⟩ | ⟨-, e⟩
                · exact e
                · exact absurd (q_ost_lt e) (by omega)
              refine q_iload_n C dX0_longestByOrders_84 rfl 0 rfl ?_
              refine hR _ _ _ _ _ _ _ ?_ rfl (Nat.le_of_ble_eq_true rfl) (Nat.le_of_ble_eq_true rfl) dX0_longestByOrders_85
              exact ⟨by rw [hdn], hW, rfl⟩
            · skip
              refine q_iload C dX0_longestByOrders_56 1 rfl ?_
              refine q_if_eq C 84 dX0_longestByOrders_58 (by decide) (fun c_58 => ?_) (fun c_58 => ?_)
              · skip
                have hdn : n9 = (q_best (q_crd V) (q_cgt V)).length := by
                  rcases hs with ⟨-, e⟩ | ⟨e, -⟩
                  · exact e
                  · rw [e] at c_58; exact absurd c_58 (by decide)
                refine q_iload_n C dX0_longestByOrders_84 rfl 0 rfl ?_
                refine hR _ _ _ _ _ _ _ ?_ rfl (Nat.le_of_ble_eq_true rfl) (Nat.le_of_ble_eq_true rfl) dX0_longestByOrders_85
                exact ⟨by rw [hdn], hW, rfl⟩
              · skip
                obtain ⟨pre, row, suf, hL, hop, hpath, hrw9, hmx9, hc9⟩ := (hs.resolve_left (fun z => c_58 z.1)).2
                obtain ⟨hrl0, hrb⟩ := q_all_row hL
                have hrl : row.length = cnt := hrl0.trans hcnt.symm
                have eW := q_cgt_boff hW
                refine q_iload_n C dX0_longestByOrders_61 rfl 0 rfl ?_
                refine q_aload_n C dX0_longestByOrders_62 rfl 3 rfl ?_
                refine q_iload_n C dX0_longestByOrders_63 rfl 5 rfl ?_
                refine q_callVi C (As := [.int (nI cnt)]) (rest := [.int (nI n9)]) (k := 9) (by omega) q_enBA rfl rfl (kX0_longestAtStartOfRow l σ W G (t := row) (u := cnt) hrl hcnt7 hrw9 hrb) 1 gX0_longestByOrders_X0_longestAtStartOfRow rfl rfl rfl (by decide +kernel) ⟨Nat.le_of_ble_eq_true rfl, Nat.le_of_ble_eq_true rfl⟩ dX0_longestByOrders_64 rfl (Nat.le_of_ble_eq_true rfl) ⟨Nat.le_of_ble_eq_true rfl, Nat.le_of_ble_eq_true rfl⟩ (fun r_64 V_5 G_6 hq_64 => ?_)
                obtain ⟨⟨n8, rfl, hc8, hm8⟩, rfl, rfl⟩ := hq_64
                rw [eW] at hc8 hm8
                have hn8 : n8 ≤ 7 := by
                  rcases hc8 with e | e
                  · omega
                  · have := e.2.1; omega
                refine q_max C (by decide +kernel) (by decide +kernel) (by decide +kernel) (by decide +kernel) (Nat.le_of_ble_eq_true rfl) (Nat.le_of_ble_eq_true rfl) (Nat.le_of_ble_eq_true rfl) (Nat.le_of_ble_eq_true rfl) dX0_longestByOrders_67 ?_
                refine q_stk (st' := [.int (nI (q_mx n9 n8))]) (congrArg (fun z => Value.int z :: []) (q_mx_nI (by omega) (by omega))) ?_
                refine q_istore_n C [(3, .int (nI (q_mx n9 n8))), (4, .int x), (5, .int (nI ord)), (0, .ref (σ.2.1 9)), (1, .ref (σ.2.1 1)), (2, .int (nI cnt))] dX0_longestByOrders_70 rfl (by decide) rfl ?_
                refine q_aload_n C dX0_longestByOrders_71 rfl 3 rfl ?_
                refine q_iload_n C dX0_longestByOrders_72 rfl 5 rfl ?_
                refine q_callVi C (As := [.int (nI cnt)]) (rest := []) (k := 9) (by omega) q_enBA rfl rfl (kX0_nextOrderA l σ W G (t := row) (u := cnt) hrl hcnt7 hrw9 hrb) 1 gX0_longestByOrders_X0_nextOrder rfl rfl rfl (by decide +kernel) ⟨Nat.le_of_ble_eq_true rfl, Nat.le_of_ble_eq_true rfl⟩ dX0_longestByOrders_73 rfl (Nat.le_of_ble_eq_true rfl) ⟨Nat.le_of_ble_eq_true rfl, Nat.le_of_ble_eq_true rfl⟩ (fun r_73 V_7 G_8 hq_73 => ?_)
                obtain ⟨hno_73, rfl⟩ := hq_73
                have hst := q_ost_next (W := V_7) hL hop hpath hmx9 hc9 hc8 hm8
                have hs2 : q_boff V V_7 ∧ ((r_73 = 0 ∧ q_mx n9 n8 = (q_best (q_crd V) (q_cgt V)).length) ∨ (r_73 = 1 ∧ q_ost (q_crd V) (q_cgt V) V_7 (q_mx n9 n8) (ord + 1))) := by
                  rcases hno_73 with ⟨e1, e2, e3⟩ | ⟨t', e1, e2, e3, e4, e5, e6⟩
                  · subst e3; exact ⟨hW, Or.inl ⟨e2.symm, hst.1 e1⟩⟩
                  · exact ⟨q_boff_o16 hW e3, Or.inr ⟨e2.symm, hst.2 t' e1 e4⟩⟩
                refine q_istore C [(4, .int r_73), (3, .int (nI (q_mx n9 n8))), (5, .int (nI ord)), (0, .ref (σ.2.1 9)), (1, .ref (σ.2.1 1)), (2, .int (nI cnt))] dX0_longestByOrders_76 (by decide) rfl ?_
                refine q_iincN C [(5, .int (nI (ord + 1))), (4, .int r_73), (3, .int (nI (q_mx n9 n8))), (0, .ref (σ.2.1 9)), (1, .ref (σ.2.1 1)), (2, .int (nI cnt))] dX0_longestByOrders_78 2 rfl (by decide) rfl ?_
                refine q_goto C 48 dX0_longestByOrders_81 (by decide) ?_
                refine q_sub (lv' := [(3, .int (nI (q_mx n9 n8))), (4, .int r_73), (5, .int (nI (ord + 1))), (0, .ref (σ.2.1 9)), (1, .ref (σ.2.1 1)), (2, .int (nI cnt))]) [2, 1, 0, 3, 4, 5] rfl ?_
                exact ihL_4 _ (q_mx n9 n8) (ord + 1) _ hs2.1 hs2.2 (by have := q_mx_or n9 n8; omega) (by omega) (by omega)
        refine q_sub (lv' := [(3, .int (nI 0)), (4, .int (nI 1)), (5, .int (nI 0)), (0, .ref (σ.2.1 9)), (1, .ref (σ.2.1 1)), (2, .int (nI cnt))]) [2, 1, 0, 4, 5, 3] rfl ?_
        exact L_4 _ U 0 0 _ hU (Or.inr ⟨by decide, q_ost_0 hrw⟩) (by decide) (by decide) (Nat.lt_succ_self _)
      · skip
        refine q_aload_n C dX0_longestByOrders_15 rfl 2 rfl ?_
        refine q_get C (k := 9) (fi := 2) (.ref (σ.2.1 15)) (by omega) q_enBA rfl iX0_longestByOrders_X0 (by decide) (by decide +kernel) rfl rfl dX0_longestByOrders_16 ?_
        refine q_iload_n C dX0_longestByOrders_19 rfl 1 rfl ?_
        refine q_zaldN C (by omega) dX0_longestByOrders_20 ?_
        refine q_if_eq C 34 dX0_longestByOrders_21 (by decide) (fun c_21 => ?_) (fun c_21 => ?_)
        · skip
          have hrdj : ¬ q_crd V j := fun z => by rw [hrdy j (by omega), q_w01_y z] at c_21; exact absurd c_21 (by decide)
          refine q_iincN C [(3, .int (nI (j + 1))), (2, .int (nI cnt)), (0, .ref (σ.2.1 9)), (1, .ref (σ.2.1 1))] dX0_longestByOrders_34 1 rfl (by decide) rfl ?_
          refine q_goto C 9 dX0_longestByOrders_37 (by decide) ?_
          refine q_sub (lv' := [(2, .int (nI cnt)), (3, .int (nI (j + 1))), (0, .ref (σ.2.1 9)), (1, .ref (σ.2.1 1))]) [1, 0, 2, 3] rfl ?_
          exact ihL_3 _ cnt (j + 1) hU hrdy (by rw [q_rlj_n hrdj]; exact hrw) (by rw [q_rlj_n hrdj, hcnt]) (by omega) (by omega) (by omega)
        · skip
          have hrdj : q_crd V j := Classical.byContradiction fun z => c_21 (by rw [hrdy j (by omega), q_w01_n z])
          refine q_aload_n C dX0_longestByOrders_24 rfl 2 rfl ?_
          refine q_get C (k := 9) (fi := 3) (.ref (σ.2.1 16)) (by omega) q_enBA rfl iX0_longestByOrders_X0 (by decide) (by decide +kernel) rfl rfl dX0_longestByOrders_25 ?_
          refine q_iload_n C dX0_longestByOrders_28 rfl 0 rfl ?_
          refine q_iload_n C dX0_longestByOrders_29 rfl 1 rfl ?_
          refine q_iastN C (k := 16) (n := 7) ⟨by decide, by decide, by decide⟩ (by omega) (by decide) dX0_longestByOrders_30 ?_
          refine q_iincN C [(2, .int (nI (cnt + 1))), (3, .int (nI j)), (0, .ref (σ.2.1 9)), (1, .ref (σ.2.1 1))] dX0_longestByOrders_31 0 rfl (by decide) rfl ?_
          refine q_iincN C [(3, .int (nI (j + 1))), (2, .int (nI (cnt + 1))), (0, .ref (σ.2.1 9)), (1, .ref (σ.2.1 1))] dX0_longestByOrders_34 1 rfl (by decide) rfl ?_
          refine q_goto C 9 dX0_longestByOrders_37 (by decide) ?_
          refine q_sub (lv' := [(2, .int (nI (cnt + 1))), (3, .int (nI (j + 1))), (0, .ref (σ.2.1 9)), (1, .ref (σ.2.1 1))]) [1, 0, 2, 3] rfl ?_
          exact ihL_3 _ (cnt + 1) (j + 1) (q_boff_16 hU _ _) hrdy (by rw [q_rlj_y hrdj]; exact q_rw_app hcnt hrw j) (by rw [q_rlj_y hrdj, q_len_app, hcnt]) (by omega) (by omega) (by omega)
  refine q_sub (lv' := [(2, .int (nI 0)), (3, .int (nI 0)), (0, .ref (σ.2.1 9)), (1, .ref (σ.2.1 1))]) [1, 0, 2, 3] rfl ?_
  exact L_3 _ _ 0 0 (q_boff_rdy V 7) (fun a ha => q_rdy_at V ha) (fun i hi => absurd hi (Nat.not_lt_zero i)) rfl (by omega) (by omega) (Nat.lt_succ_self _)
abbrev rX2_chainByOrders : Room := { frames := 4, cells := 0, slots := 0, locals := 85 }
theorem iX2_chainByOrders_X2 : ∀ w ∈ u_ws RX2 TX2 15, w ∈ wsX2_chainByOrders := by decide +kernel
set_option maxHeartbeats 4000000 in
set_option maxRecDepth 100000 in
/-- chainByOrders -/
theorem kX2_chainByOrders (l : Launch) (σ : q_E) (V : q_V) (G : q_G) (hw2 : ∀ a, a < 7 → V 13 a = -1 ∨ ((∃ c, c < 8 ∧ V 13 a = nI c) ∧ ∃ d, d < 8 ∧ V 14 a = nI d)) : q_Mi l yX2_chainByOrders wsX2_chainByOrders rX2_chainByOrders σ [.ref (σ.2.1 0)] V G (fun r V' G' => nI (q_best (q_crd V) (q_cgt V)).length = r ∧ q_boff V V' ∧ G = G') 0 0 := by
  refine q_Mi_of (cc := cX2_chainByOrders) (maxL := 1) (lv := [(0, .ref (σ.2.1 0))]) (by decide +kernel) rfl (Nat.le_of_ble_eq_true rfl) rfl ?_
  intro p e s m args below meth c Q C hR
  have hw : ∀ a, a < 7 → V 13 a = -1 ∨ ∃ c, c < 8 ∧ V 13 a = nI c := fun a ha => (hw2 a ha).imp id (fun z => z.1)
  refine q_aload_n C dX2_chainByOrders_0 rfl 0 rfl ?_
  refine q_get C (k := 0) (fi := 10) (.ref (σ.2.1 9)) (by omega) q_enBP rfl iX2_chainByOrders_X2 (by decide) (by decide +kernel) rfl rfl dX2_chainByOrders_1 ?_
  refine q_aload_n C dX2_chainByOrders_4 rfl 0 rfl ?_
  refine q_get C (k := 0) (fi := 0) (.ref (σ.2.1 1)) (by omega) q_enBP rfl iX2_chainByOrders_X2 (by decide) (by decide +kernel) rfl rfl dX2_chainByOrders_5 ?_
  refine q_callNi C (As := [.ref (σ.2.1 1)]) (rest := []) (k := 9) (by omega) q_enBA rfl rfl (kX0_longestByOrders l σ V G hw) 1 (host := RX2) gX2_chainByOrders_X0_longestByOrders_n168 rfl rfl rfl (by decide +kernel) (by decide +kernel) (by decide +kernel) (by decide +kernel) (by decide +kernel) ⟨Nat.le_of_ble_eq_true rfl, Nat.le_of_ble_eq_true rfl⟩ dX2_chainByOrders_8 rfl (Nat.le_of_ble_eq_true rfl) ⟨Nat.le_of_ble_eq_true rfl, Nat.le_of_ble_eq_true rfl⟩ (fun r_8 V_1 G_2 hq_8 => ?_)
  obtain ⟨hr9, hoff, rfl⟩ := hq_8
  refine hR _ _ _ _ _ _ _ ?_ rfl (Nat.le_of_ble_eq_true rfl) (Nat.le_of_ble_eq_true rfl) dX2_chainByOrders_11
  exact ⟨hr9, hoff, rfl⟩
