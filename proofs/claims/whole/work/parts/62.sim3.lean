/-! the best chain is the same on both sides -/
theorem q_chs_congr {f g : List Nat → Nat → List Nat} (h : ∀ b k, k < 7 → f b k = g b k) : ∀ (m k : Nat) (b : List Nat), k + m ≤ 7 → q_chs f m k b = q_chs g m k b
  | 0, _, _, _ => rfl
  | m + 1, k, b, hk => by
    show q_chs f m (k + 1) (f b k) = q_chs g m (k + 1) (g b k)
    rw [h b k (by omega)]
    exact q_chs_congr h m (k + 1) _ (by omega)
theorem q_ch_congr {rd rd' : Nat → Prop} {gt gt' : Nat → Nat → Prop} (h1 : ∀ a, a < 7 → (rd a ↔ rd' a)) (h2 : ∀ a b, a < 7 → b < 7 → rd a → rd b → (gt a b ↔ gt' a b)) : ∀ (d : Nat) (r b : List Nat), (∀ i, i < r.length → r.getD i 0 < 7 ∧ rd (r.getD i 0)) → q_ch rd gt d r b = q_ch rd' gt' d r b
  | 0, _, _, _ => rfl
  | d + 1, r, b, hr => by
    rw [q_ch_succ, q_ch_succ]
    refine q_chs_congr (fun b k hk => ?_) 7 0 b (Nat.le_refl 7)
    have hla : 0 < r.length → q_la r < 7 ∧ rd (q_la r) := fun h0 => hr (r.length - 1) (by omega)
    have hrow : q_row rd gt r k ↔ q_row rd' gt' r k := by
      by_cases hr0 : r = []
      · exact ⟨fun z => ⟨(h1 k hk).mp z.1, Or.inl hr0⟩, fun z => ⟨(h1 k hk).mpr z.1, Or.inl hr0⟩⟩
      · have h0 := List.length_pos_iff.mpr hr0
        constructor
        · intro z
          have z2 := z.2.resolve_left hr0
          exact ⟨(h1 k hk).mp z.1, Or.inr ⟨z2.1, z2.2.1, (h2 _ _ (hla h0).1 hk (hla h0).2 z.1).mp z2.2.2⟩⟩
        · intro z
          have z2 := z.2.resolve_left hr0
          have a1 := (h1 k hk).mpr z.1
          exact ⟨a1, Or.inr ⟨z2.1, z2.2.1, (h2 _ _ (hla h0).1 hk (hla h0).2 a1).mpr z2.2.2⟩⟩
    by_cases hc : q_row rd gt r k
    · rw [q_stp_y hc, q_stp_y (hrow.mp hc)]
      have hk' : rd k := hc.1
      have hr2 : ∀ i, i < (r ++ [k]).length → (r ++ [k]).getD i 0 < 7 ∧ rd ((r ++ [k]).getD i 0) := by
        intro i hi
        rw [q_len_app] at hi
        rcases Nat.lt_or_ge i r.length with q | q
        · rw [q_gd_lt q]; exact hr i q
        · rw [show i = r.length by omega, q_gd_eq]; exact ⟨hk, hk'⟩
      have e : q_cl gt (r ++ [k]) = q_cl gt' (r ++ [k]) := propext (by
        unfold q_cl
        refine and_congr_right (fun hl => ?_)
        have z0 := hr2 0 (by omega)
        have z1 := hr2 ((r ++ [k]).length - 1) (by omega)
        exact h2 _ _ z1.1 z0.1 z1.2 z0.2)
      have e2 : q_upb gt b (r ++ [k]) = q_upb gt' b (r ++ [k]) := by unfold q_upb; rw [e]
      rw [e2]
      exact q_ch_congr h1 h2 d (r ++ [k]) _ hr2
    · rw [q_stp_n hc, q_stp_n (fun z => hc (hrow.mpr z))]
theorem q_Rel_best {V : q_V} (h1 : q_R1 V) (h9 : q_R9 V) : q_best (q_mrd V) (q_mgt V) = q_best (q_crd V) (q_cgt V) := by
  refine q_ch_congr (fun a ha => ?_) (fun a b ha hb hra hrb => ?_) 7 [] [] (fun i hi => absurd hi (Nat.not_lt_zero i))
  · unfold q_mrd q_crd
    obtain ⟨e, h⟩ := h9 a ha
    rw [e]
    refine and_congr_right (fun hn => ?_)
    obtain ⟨-, ⟨c, hc, hce⟩, -⟩ := h.resolve_left hn
    rw [hce, q_n_nI (by omega), h1 a c ha hc]
  · unfold q_mgt q_cgt
    have hra1 := hra.1
    rw [(h9 a ha).1] at hra1
    rw [(h9 b hb).1, ((h9 a ha).2.resolve_left hra1).1]
theorem q_xc_ne {L : List String} {k : Nat} {E : String} (h : q_xc L k E) (hl : L.length ≤ 5) : nI k ≠ 0 := by
  have h2 := (List.getElem?_eq_some_iff.mp h.2).1
  exact nI_ne0 h.1 (by omega)
theorem q_Rel_18 {V : q_V} {G : q_G} {n ns : Nat} (h : q_Rel V G n ns) (o : Int64) : q_Rel V (q_upL G 18 0 o) n ns := by
  obtain ⟨h1, h2, h3, h4, h5, h6, h7, h8, h9, h10⟩ := h
  exact ⟨h1, h2, h3, h4, h5, h6, h7, h8, h9, h10⟩
/-- what a step of the law shows -/
def q_stepR (k : Int32) (o : Int64) (V : q_V) (G : q_G) : Prop := V 19 0 = k ∧ (k = 0 → G 18 0 = o) ∧ ∃ n ns, q_Rel V G n ns
theorem q_simG {V : q_V} {G : q_G} {n ns : Nat} (h : q_Rel V G n ns) {LL : List String} (hll : LL.length ≤ 5) {cC : Nat} {rC : Int32} {WC : q_V} {cM rM : Nat → Nat} {k r : Int32} {V' V'' : q_V} {G' G'' : q_G} (cMf : q_V → Nat) (rMf : q_V → Int32) (WMf : q_V → q_V)
    (hL : (∃ r V1 G1, (fun r V' G' => cC = 0 ∧ rC = r ∧ WC = V' ∧ G = G') r V1 G1 ∧ (0 : Int32) = k ∧ V1 = V' ∧ q_upL G1 18 0 r.toInt64 = G') ∨ (∃ E, (fun E V' G' => q_xc LL cC E ∧ V = V' ∧ G = G') E V' G' ∧ nI cC = k))
    (hM : q_mres V' (cMf V') (rMf V') (WMf V') r V'' ∧ G' = G'') (hB : cC ≠ 0 → cMf V = cC) (hA : cC = 0 → cMf WC = 0 ∧ rMf WC = rC ∧ WMf WC 19 0 = 0 ∧ ∃ n ns, q_Rel (WMf WC) G n ns) : q_stepR k r.toInt64 V'' G'' := by
  rcases hL with ⟨r1, V1, G1, ⟨hc, e1, rfl, rfl⟩, rfl, rfl, rfl⟩ | ⟨E, ⟨hx, rfl, rfl⟩, rfl⟩
  · obtain ⟨a1, a2, a3, n', ns', a4⟩ := hA hc
    obtain ⟨hm, rfl⟩ := hM
    rcases hm with ⟨-, rfl, rfl⟩ | ⟨hn, -⟩
    · refine ⟨a3, fun _ => ?_, n', ns', q_Rel_18 a4 _⟩
      rw [a2, e1]
      exact q_upL_self _ _ _ _
    · exact absurd a1 hn
  · have h1 := hx.1
    have hB' := hB (by omega)
    obtain ⟨hm, rfl⟩ := hM
    rcases hm with ⟨h0, -⟩ | ⟨hn, rfl⟩
    · rw [hB'] at h0; omega
    · rw [hB']
      exact ⟨q_up_self _ _ _ _, fun z => absurd z (q_xc_ne hx hll), n, ns, q_Rel_sm h (q_sm_19 V _) rfl rfl⟩
