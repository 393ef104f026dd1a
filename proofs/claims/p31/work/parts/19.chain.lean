/-! chains: rows of people, tried in their order; rd: who can give, gt: who gets from whom -/
noncomputable def q_ite {α : Type} (P : Prop) (a b : α) : α := @ite α P (Classical.propDecidable P) a b
theorem q_ite_y {α : Type} {P : Prop} {a b : α} (h : P) : q_ite P a b = a := if_pos h
theorem q_ite_n {α : Type} {P : Prop} {a b : α} (h : ¬ P) : q_ite P a b = b := if_neg h
def q_la (r : List Nat) : Nat := r.getD (r.length - 1) 0
def q_row (rd : Nat → Prop) (gt : Nat → Nat → Prop) (r : List Nat) (k : Nat) : Prop := rd k ∧ (r = [] ∨ (r.getD 0 0 < k ∧ (∀ i, i < r.length → r.getD i 0 ≠ k) ∧ gt (q_la r) k))
def q_cl (gt : Nat → Nat → Prop) (r : List Nat) : Prop := 2 ≤ r.length ∧ gt (q_la r) (r.getD 0 0)
noncomputable def q_upb (gt : Nat → Nat → Prop) (b r : List Nat) : List Nat := q_ite (q_cl gt r ∧ b.length < r.length) r b
def q_chs (f : List Nat → Nat → List Nat) : Nat → Nat → List Nat → List Nat
  | 0, _, b => b
  | m + 1, k, b => q_chs f m (k + 1) (f b k)
noncomputable def q_ch (rd : Nat → Prop) (gt : Nat → Nat → Prop) : Nat → List Nat → List Nat → List Nat
  | 0, _, b => b
  | d + 1, r, b => q_chs (fun b k => q_ite (q_row rd gt r k) (q_ch rd gt d (r ++ [k]) (q_upb gt b (r ++ [k]))) b) 7 0 b
noncomputable def q_stp (rd : Nat → Prop) (gt : Nat → Nat → Prop) (d : Nat) (r : List Nat) : List Nat → Nat → List Nat := fun b k => q_ite (q_row rd gt r k) (q_ch rd gt d (r ++ [k]) (q_upb gt b (r ++ [k]))) b
theorem q_ch_succ (rd : Nat → Prop) (gt : Nat → Nat → Prop) (d : Nat) (r b : List Nat) : q_ch rd gt (d + 1) r b = q_chs (q_stp rd gt d r) 7 0 b := rfl
noncomputable def q_best (rd : Nat → Prop) (gt : Nat → Nat → Prop) : List Nat := q_ch rd gt 7 [] []
theorem q_chs_step {f : List Nat → Nat → List Nat} {k : Nat} {b : List Nat} (h : k < 7) : q_chs f (7 - k) k b = q_chs f (7 - (k + 1)) (k + 1) (f b k) := by
  rw [show 7 - k = (7 - (k + 1)) + 1 by omega]
  rfl
theorem q_gd_lt {r : List Nat} {k i : Nat} (h : i < r.length) : (r ++ [k]).getD i 0 = r.getD i 0 := by
  simp [List.getD, List.getElem?_append_left h]
theorem q_gd_eq (r : List Nat) (k : Nat) : (r ++ [k]).getD r.length 0 = k := by
  simp [List.getD]
theorem q_la_app (r : List Nat) (k : Nat) : q_la (r ++ [k]) = k := by
  unfold q_la
  rw [List.length_append, show r.length + [k].length - 1 = r.length by simp]
  exact q_gd_eq r k
theorem q_hd_app {r : List Nat} (k : Nat) (h : 0 < r.length) : (r ++ [k]).getD 0 0 = r.getD 0 0 := q_gd_lt h
theorem q_len_app (r : List Nat) (k : Nat) : (r ++ [k]).length = r.length + 1 := by simp
theorem q_upb_len {gt : Nat → Nat → Prop} {b r : List Nat} (h1 : b.length ≤ 7) (h2 : r.length ≤ 7) : (q_upb gt b r).length ≤ 7 := by
  by_cases h : q_cl gt r ∧ b.length < r.length
  · rw [q_upb, q_ite_y h]; exact h2
  · rw [q_upb, q_ite_n h]; exact h1
theorem q_chs_inv {P : List Nat → Prop} {f : List Nat → Nat → List Nat} (hf : ∀ b k, k < 7 → P b → P (f b k)) : ∀ (m k : Nat) (b : List Nat), k + m ≤ 7 → P b → P (q_chs f m k b)
  | 0, _, _, _, h => h
  | m + 1, k, b, hk, h => q_chs_inv hf m (k + 1) (f b k) (by omega) (hf b k (by omega) h)
theorem q_ch_len (rd : Nat → Prop) (gt : Nat → Nat → Prop) : ∀ (d : Nat) (r b : List Nat), r.length + d ≤ 7 → b.length ≤ 7 → (q_ch rd gt d r b).length ≤ 7
  | 0, _, _, _, h => h
  | d + 1, r, b, hr, h => by
    rw [q_ch_succ]
    refine q_chs_inv (P := fun b => b.length ≤ 7) (fun b k hk hb => ?_) 7 0 b (Nat.le_refl 7) h
    show (q_ite (α := List Nat) _ _ _).length ≤ 7
    by_cases hc : q_row rd gt r k
    · rw [q_ite_y hc]
      refine q_ch_len rd gt d (r ++ [k]) _ (by rw [q_len_app]; omega) (q_upb_len hb (by rw [q_len_app]; omega))
    · rw [q_ite_n hc]; exact hb
theorem q_stp_len {rd : Nat → Prop} {gt : Nat → Nat → Prop} {d : Nat} {r b : List Nat} {k : Nat} (hr : r.length + (d + 1) ≤ 7) (hb : b.length ≤ 7) : (q_stp rd gt d r b k).length ≤ 7 := by
  unfold q_stp
  by_cases hc : q_row rd gt r k
  · rw [q_ite_y hc]
    exact q_ch_len rd gt d (r ++ [k]) _ (by rw [q_len_app]; omega) (q_upb_len hb (by rw [q_len_app]; omega))
  · rw [q_ite_n hc]; exact hb
/-- who can give, who gets from whom, at the reference -/
def q_mrd (V : q_V) (a : Nat) : Prop := ¬ V 81 a = -1 ∧ 0 < V 69 (8 * a + q_n (V 81 a))
def q_mgt (V : q_V) (a b : Nat) : Prop := V 82 a = V 81 b
def q_off (V U : q_V) : Prop := ∀ a, a ≠ 83 → a ≠ 84 → U a = V a
theorem q_mrd_off {V U : q_V} (h : q_off V U) : q_mrd U = q_mrd V := by
  funext a
  unfold q_mrd
  rw [h 81 (by decide) (by decide), h 69 (by decide) (by decide)]
theorem q_mgt_off {V U : q_V} (h : q_off V U) : q_mgt U = q_mgt V := by
  funext a b
  unfold q_mgt
  rw [h 81 (by decide) (by decide), h 82 (by decide) (by decide)]
theorem q_off_rfl (V : q_V) : q_off V V := fun _ _ _ => rfl
theorem q_off_up {V U : q_V} (h : q_off V U) {j : Nat} {x : Int32} : q_off V (q_up U 84 j x) := fun a h1 h2 => by
  rw [q_up_off U x h2]
  exact h a h1 h2
theorem q_off_cpy {V U : q_V} (h : q_off V U) {n : Nat} : q_off V (q_cpy U 84 83 n) := fun a h1 h2 => by
  rw [← h a h1 h2]
  funext b
  exact if_neg (fun z => h1 z.1)
theorem q_cpy_succ (V : q_V) {k1 k2 : Nat} (n : Nat) (hk : k1 ≠ k2) : q_up (q_cpy V k1 k2 n) k2 n (q_cpy V k1 k2 n k1 n) = q_cpy V k1 k2 (n + 1) := by
  have e1 : q_cpy V k1 k2 n k1 n = V k1 n := if_neg (fun z => hk z.1)
  rw [e1]
  funext a b
  by_cases ha : a = k2
  · subst ha
    by_cases hb : b = n
    · subst hb
      simp [q_up, q_cpy]
    · by_cases h2 : b < n
      · simp [q_up, q_cpy, hb, h2, Nat.lt_succ_of_lt h2]
      · simp [q_up, q_cpy, hb, h2, show ¬ b < n + 1 by omega]
  · simp [q_up, q_cpy, ha]
theorem q_cpy_0 (V : q_V) (k1 k2 : Nat) : q_cpy V k1 k2 0 = V := by
  funext a b
  exact if_neg (fun z => absurd z.2 (Nat.not_lt_zero b))
theorem q_inc1 (k : Nat) : nI k - nI 1 + nI 1 = nI k := by simp
theorem q_pm1 (n : Nat) : nI (n + 1) + Int32.ofInt (-1) = nI n := (show Int32.ofInt (-1) = (-1 : Int32) by decide) ▸ pk_m1 n
theorem q_sub1 (k : Nat) : nI (k + 1) - nI 1 = nI k := by rw [pk_sub (Nat.le_add_left 1 k), Nat.add_sub_cancel]
theorem q_row_no {rd : Nat → Prop} {gt : Nat → Nat → Prop} {r : List Nat} {k j : Nat} (hj : j < r.length) (h : r.getD j 0 = k) : ¬ q_row rd gt r k := fun q => by
  rcases q.2 with e | e
  · subst e; exact absurd hj (Nat.not_lt_zero j)
  · exact e.2.1 j hj h
theorem q_row_1 {rd : Nat → Prop} {gt : Nat → Nat → Prop} {r : List Nat} {k : Nat} (h : rd k) (e : r.length = 0) : q_row rd gt r k := ⟨h, Or.inl (List.length_eq_zero_iff.mp e)⟩
theorem q_row_2 {rd : Nat → Prop} {gt : Nat → Nat → Prop} {r : List Nat} {k : Nat} (h : rd k) (h1 : r.getD 0 0 ≤ k) (h2 : ∀ i, i < r.length → r.getD i 0 ≠ k) (h0 : 0 < r.length) (h3 : gt (q_la r) k) : q_row rd gt r k :=
  ⟨h, Or.inr ⟨Nat.lt_of_le_of_ne h1 (h2 0 h0), h2, h3⟩⟩
theorem q_row_gt {rd : Nat → Prop} {gt : Nat → Nat → Prop} {r : List Nat} {k : Nat} (h : q_row rd gt r k) (h0 : 0 < r.length) : gt (q_la r) k := by
  rcases h.2 with e | e
  · subst e; exact absurd h0 (Nat.lt_irrefl 0)
  · exact e.2.2
theorem q_cpy_app {U : q_V} {r : List Nat} {k : Nat} (ht : ∀ i, i < r.length → U 84 i = nI (r.getD i 0)) {i : Nat} (hi : i < r.length + 1) : q_cpy (q_up U 84 r.length (nI k)) 84 83 (r.length + 1) 83 i = nI ((r ++ [k]).getD i 0) := by
  have e1 : q_cpy (q_up U 84 r.length (nI k)) 84 83 (r.length + 1) 83 i = q_up U 84 r.length (nI k) 84 i := if_pos ⟨rfl, hi⟩
  rw [e1]
  rcases Nat.lt_or_ge i r.length with q | q
  · rw [q_gd_lt q]
    exact (q_up_ne _ _ (by omega)).trans (ht i q)
  · have e8 : i = r.length := by omega
    rw [e8, q_gd_eq]
    exact q_up_self _ _ _ _
theorem q_app_lt {r : List Nat} {k : Nat} (h : ∀ i, i < r.length → r.getD i 0 < 7) (hk : k < 7) : ∀ i, i < (r ++ [k]).length → (r ++ [k]).getD i 0 < 7 := by
  intro i hi
  rw [q_len_app] at hi
  rcases Nat.lt_or_ge i r.length with q | q
  · rw [q_gd_lt q]; exact h i q
  · rw [show i = r.length by omega, q_gd_eq]; exact hk
theorem q_app_at {U : q_V} {r : List Nat} {k : Nat} {x : Int32} (ht : ∀ i, i < r.length → U 84 i = nI (r.getD i 0)) (hk : U 84 r.length = nI k) : ∀ i, i < (r ++ [k]).length → q_up U 84 (r.length + 1) x 84 i = nI ((r ++ [k]).getD i 0) := by
  intro i hi
  rw [q_len_app] at hi
  rw [q_up_ne _ _ (by omega)]
  rcases Nat.lt_or_ge i r.length with q | q
  · rw [q_gd_lt q]; exact ht i q
  · rw [show i = r.length by omega, q_gd_eq]; exact hk
theorem q_wf_off {V U : q_V} (h : q_off V U) (hw : ∀ a, a < 7 → V 81 a = -1 ∨ ∃ c, c < 8 ∧ V 81 a = nI c) : ∀ a, a < 7 → U 81 a = -1 ∨ ∃ c, c < 8 ∧ U 81 a = nI c := by
  intro a ha
  rw [h 81 (by decide) (by decide)]
  exact hw a ha
/-- a row that goes on as it must -/
def q_vr (rd : Nat → Prop) (gt : Nat → Nat → Prop) (r : List Nat) : Prop := ∀ i, i < r.length → r.getD i 0 < 7 ∧ rd (r.getD i 0) ∧ (0 < i → r.getD 0 0 < r.getD i 0) ∧ (∀ j, j < i → r.getD j 0 ≠ r.getD i 0) ∧ (i + 1 < r.length → gt (r.getD i 0) (r.getD (i + 1) 0))
def q_okb (rd : Nat → Prop) (gt : Nat → Nat → Prop) (b : List Nat) : Prop := b = [] ∨ (q_vr rd gt b ∧ q_cl gt b)
theorem q_vr_nil (rd : Nat → Prop) (gt : Nat → Nat → Prop) : q_vr rd gt [] := fun i hi => absurd hi (Nat.not_lt_zero i)
theorem q_vr_app {rd : Nat → Prop} {gt : Nat → Nat → Prop} {r : List Nat} {k : Nat} (h : q_vr rd gt r) (hk : k < 7) (hr : q_row rd gt r k) : q_vr rd gt (r ++ [k]) := by
  intro i hi
  rw [q_len_app] at hi
  rcases Nat.lt_or_ge i r.length with q | q
  · obtain ⟨h1, h2, h3, h4, h5⟩ := h i q
    rw [q_gd_lt q, q_gd_lt (show 0 < r.length by omega)]
    refine ⟨h1, h2, h3, fun j hj => by rw [q_gd_lt (by omega)]; exact h4 j hj, fun hn => ?_⟩
    rw [q_len_app] at hn
    rcases Nat.lt_or_ge (i + 1) r.length with q2 | q2
    · rw [q_gd_lt q2]; exact h5 q2
    · have e : i + 1 = r.length := by omega
      rw [e, q_gd_eq]
      rcases hr.2 with z | z
      · subst z; exact absurd q (Nat.not_lt_zero i)
      · have h9 := z.2.2
        unfold q_la at h9
        rw [show r.length - 1 = i by omega] at h9
        exact h9
  · have e : i = r.length := by omega
    subst e
    rw [q_gd_eq]
    refine ⟨hk, hr.1, fun h0 => ?_, fun j hj => ?_, fun hn => by rw [q_len_app] at hn; omega⟩
    · rw [q_gd_lt h0]
      rcases hr.2 with z | z
      · subst z; exact absurd h0 (Nat.lt_irrefl 0)
      · exact z.1
    · rw [q_gd_lt hj]
      rcases hr.2 with z | z
      · subst z; exact absurd hj (Nat.not_lt_zero j)
      · exact z.2.1 j hj
theorem q_upb_ok {rd : Nat → Prop} {gt : Nat → Nat → Prop} {b r : List Nat} (hb : q_okb rd gt b) (hr : q_vr rd gt r) : q_okb rd gt (q_upb gt b r) := by
  by_cases h : q_cl gt r ∧ b.length < r.length
  · rw [q_upb, q_ite_y h]; exact Or.inr ⟨hr, h.1⟩
  · rw [q_upb, q_ite_n h]; exact hb
theorem q_ch_ok (rd : Nat → Prop) (gt : Nat → Nat → Prop) : ∀ (d : Nat) (r b : List Nat), q_vr rd gt r → q_okb rd gt b → q_okb rd gt (q_ch rd gt d r b)
  | 0, _, _, _, h => h
  | d + 1, r, b, hr, h => by
    rw [q_ch_succ]
    refine q_chs_inv (P := q_okb rd gt) (fun b k hk hb => ?_) 7 0 b (Nat.le_refl 7) h
    show q_okb rd gt (q_ite _ _ _)
    by_cases hc : q_row rd gt r k
    · rw [q_ite_y hc]
      have h9 := q_vr_app hr hk hc
      exact q_ch_ok rd gt d (r ++ [k]) _ h9 (q_upb_ok hb h9)
    · rw [q_ite_n hc]; exact hb
theorem q_best_ok (rd : Nat → Prop) (gt : Nat → Nat → Prop) : q_okb rd gt (q_best rd gt) := q_ch_ok rd gt 7 [] [] (q_vr_nil rd gt) (Or.inl rfl)
theorem q_best_len (rd : Nat → Prop) (gt : Nat → Nat → Prop) : (q_best rd gt).length ≤ 7 := q_ch_len rd gt 7 [] [] (by decide) (by decide)
theorem q_best_in (rd : Nat → Prop) (gt : Nat → Nat → Prop) {i : Nat} (hi : i < (q_best rd gt).length) : (q_best rd gt).getD i 0 < 7 ∧ rd ((q_best rd gt).getD i 0) := by
  rcases q_best_ok rd gt with h | h
  · rw [h] at hi; exact absurd hi (Nat.not_lt_zero i)
  · have h9 := h.1 i hi
    exact ⟨h9.1, h9.2.1⟩
/-- the hands behind the first n of a chain, at the reference -/
def q_fair (V : q_V) (b : List Nat) : Nat → q_V
  | 0 => V
  | k + 1 => q_up (q_up (q_fair V b k) 69 (8 * b.getD k 0 + q_n (V 81 (b.getD k 0))) (q_fair V b k 69 (8 * b.getD k 0 + q_n (V 81 (b.getD k 0))) - nI 1)) 69 (8 * b.getD k 0 + q_n (V 82 (b.getD k 0)))
      (q_up (q_fair V b k) 69 (8 * b.getD k 0 + q_n (V 81 (b.getD k 0))) (q_fair V b k 69 (8 * b.getD k 0 + q_n (V 81 (b.getD k 0))) - nI 1) 69 (8 * b.getD k 0 + q_n (V 82 (b.getD k 0))) + nI 1)
theorem q_fair_off (V : q_V) (b : List Nat) : ∀ (n a : Nat), a ≠ 69 → q_fair V b n a = V a
  | 0, _, _ => rfl
  | k + 1, a, h => by
    show q_up (q_up _ 69 _ _) 69 _ _ a = V a
    rw [q_up_off _ _ h, q_up_off _ _ h]
    exact q_fair_off V b k a h
theorem q_fair_step {V : q_V} {b : List Nat} {k c d : Nat} (h1 : V 81 (b.getD k 0) = nI c) (h2 : V 82 (b.getD k 0) = nI d) (hc : c < 8) (hd : d < 8) :
    q_up (q_up (q_fair V b k) 69 (8 * b.getD k 0 + c) (q_fair V b k 69 (8 * b.getD k 0 + c) - nI 1)) 69 (8 * b.getD k 0 + d) (q_up (q_fair V b k) 69 (8 * b.getD k 0 + c) (q_fair V b k 69 (8 * b.getD k 0 + c) - nI 1) 69 (8 * b.getD k 0 + d) + nI 1) = q_fair V b (k + 1) := by
  have e1 : q_n (V 81 (b.getD k 0)) = c := by rw [h1]; exact q_n_nI (by omega)
  have e2 : q_n (V 82 (b.getD k 0)) = d := by rw [h2]; exact q_n_nI (by omega)
  show _ = q_up (q_up _ 69 _ _) 69 _ _
  rw [e1, e2]
