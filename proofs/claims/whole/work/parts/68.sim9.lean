theorem q_ct_le2 {p q : Nat → Prop} : ∀ {n : Nat}, (∀ k, k < n → p k → q k) → q_ct p n ≤ q_ct q n
  | 0, _ => Nat.le_refl _
  | n + 1, h => by
    have ih := q_ct_le2 (p := p) (q := q) (n := n) (fun k hk => h k (by omega))
    by_cases hp : p n
    · rw [q_ct_y hp, q_ct_y (h n (by omega) hp)]; omega
    · rw [q_ct_n hp]
      by_cases hq : q n
      · rw [q_ct_y hq]; omega
      · rw [q_ct_n hq]; exact ih
theorem q_ct_lt {p q : Nat → Prop} : ∀ {n k0 : Nat}, (∀ k, k < n → p k → q k) → k0 < n → q k0 → ¬ p k0 → q_ct p n < q_ct q n
  | 0, _, _, h, _, _ => absurd h (Nat.not_lt_zero _)
  | n + 1, k0, h, hk, hq, hp => by
    by_cases e : k0 = n
    · subst e
      have ih := q_ct_le2 (p := p) (q := q) (n := k0) (fun k hk => h k (by omega))
      rw [q_ct_n hp, q_ct_y hq]; omega
    · have ih := q_ct_lt (n := n) (fun k hk => h k (by omega)) (by omega : k0 < n) hq hp
      by_cases hp2 : p n
      · rw [q_ct_y hp2, q_ct_y (h n (by omega) hp2)]; omega
      · rw [q_ct_n hp2]
        by_cases hq2 : q n
        · rw [q_ct_y hq2]; omega
        · rw [q_ct_n hq2]; exact ih
theorem q_rk_def (g : Nat → Int64) (k : Nat) : q_rk g k = q_ct (fun i => (g k).toInt < (g i).toInt ∨ ((g i).toInt = (g k).toInt ∧ i < k)) 7 :=
  q_ct_congr fun i _ => by rw [Int64.lt_iff_toInt_lt, Int64.toInt_inj]
theorem q_rk_lt (g : Nat → Int64) {i j : Nat} (hi : i < 7) (h : (g j).toInt < (g i).toInt ∨ ((g i).toInt = (g j).toInt ∧ i < j)) : q_rk g i < q_rk g j := by
  rw [q_rk_def, q_rk_def]
  exact q_ct_lt (k0 := i) (fun k hk z => by omega) hi h (by omega)
theorem q_rk_7 (g : Nat → Int64) {i : Nat} (hi : i < 7) : q_rk g i < 7 := by
  rw [q_rk_def]
  exact Nat.lt_of_lt_of_le (q_ct_lt (q := fun _ => True) (k0 := i) (fun _ _ _ => trivial) hi trivial (by omega)) (q_ct_le _ 7)
theorem q_rk_inj (g : Nat → Int64) {i j : Nat} (hi : i < 7) (hj : j < 7) (e : q_rk g i = q_rk g j) : i = j := by
  apply Classical.byContradiction
  intro hne
  by_cases h : (g j).toInt < (g i).toInt ∨ ((g i).toInt = (g j).toInt ∧ i < j)
  · have := q_rk_lt g hi h; omega
  · have := q_rk_lt g (i := j) (j := i) hj (by omega); omega
theorem q_rk_on (g : Nat → Int64) {y : Nat} (hy : y < 7) : ∃ i, i < 7 ∧ q_rk g i = y :=
  fb_onto (f := q_rk g) (fun i hi => q_rk_7 g hi) (fun i j hij hj e => by have := q_rk_inj g (by omega) hj e; omega) hy
theorem q_rk_cong {g g' : Nat → Int64} (h : ∀ p, p < 7 → g p = g' p) {k : Nat} (hk : k < 7) : q_rk g k = q_rk g' k :=
  q_ct_congr fun i hi => by rw [h i hi, h k hk]
theorem q_mfd_at {g : Nat → Int64} {x : Int32} {k0 : Nat} (h0 : k0 < 7) (hx : nI (q_rk g k0) = x) : ∀ n, k0 < n → n ≤ 7 → q_mfd g x n = nI k0
  | 0, h, _ => absurd h (Nat.not_lt_zero _)
  | n + 1, h, h7 => by
    show (if nI (q_rk g n) = x then nI n else q_mfd g x n) = nI k0
    by_cases e : n = k0
    · subst e; rw [if_pos hx]
    · rw [if_neg (fun z => e (q_rk_inj g (by omega) h0 (q_nI_inj (z.trans hx.symm) (by have := q_rk_7 g (i := n) (by omega); omega) (by have := q_rk_7 g h0; omega))))]
      exact q_mfd_at h0 hx n (by omega) (by omega)
theorem q_sim_ranked {V : q_V} {G : q_G} {n ns : Nat} (h : q_Rel V G n ns) (x : Int32) {k r : Int32} {V' V'' : q_V} {G' G'' : q_G} (hL : (∃ r V1 G1, (fun r V' G' => (q_c1 (q_ok 7 x)) = 0 ∧ (∃ k, k ≤ 6 ∧ (∀ p, p < k → ¬ nI (q_rk (G 12) p) = x) ∧ (k < 6 → nI (q_rk (G 12) k) = x) ∧ nI k = r) ∧ V = V' ∧ G = G') r V1 G1 ∧ (0 : Int32) = k ∧ V1 = V' ∧ q_upL G1 18 0 r.toInt64 = G') ∨ (∃ E, (fun E V' G' => q_xc [xI] (q_c1 (q_ok 7 x)) E ∧ V = V' ∧ G = G') E V' G' ∧ nI (q_c1 (q_ok 7 x)) = k)) (hM : ((q_c1 (q_ok 7 x) = 0 ∧ q_mfd (G' 89) x 7 = r) ∨ q_c1 (q_ok 7 x) ≠ 0) ∧ q_up V' 19 0 (nI (q_c1 (q_ok 7 x))) = V'' ∧ G' = G'') : q_stepR k r.toInt64 V'' G'' := by
  obtain ⟨hm, rfl, rfl⟩ := hM
  have h10 := h.2.2.2.2.2.2.2.2.2
  rcases hL with ⟨r1, V1, G1, ⟨hc, ⟨k0, hk6, hno, hyes, rfl⟩, rfl, rfl⟩, rfl, rfl, rfl⟩ | ⟨E, ⟨hx, rfl, rfl⟩, rfl⟩
  · rcases hm with ⟨-, e2⟩ | hn9
    · obtain ⟨j, hj, rfl⟩ := q_c1_of hc
      obtain ⟨i, hi, hie⟩ := q_rk_on (G 12) hj
      have hik : i = k0 := by
        rcases Nat.lt_trichotomy i k0 with z | z | z
        · exact absurd (by rw [hie]) (hno i z)
        · exact z
        · have hk := hyes (by omega)
          have hr := q_nI_inj hk (by have := q_rk_7 (G 12) (i := k0) (by omega); omega) (by omega)
          exact q_rk_inj (G 12) hi (by omega) (hie.trans hr.symm)
      subst hik
      rw [hc]
      refine ⟨(q_up_self _ _ _ _).trans nI_0, fun _ => ?_, n, ns, q_Rel_18 (q_Rel_sm h (q_sm_19 V _) rfl rfl) _⟩
      have e3 : q_mfd (G 89) (nI j) 7 = nI i := q_mfd_at hi (by rw [q_rk_cong h10 hi, hie]) 7 hi (Nat.le_refl 7)
      have e4 : r = nI i := e2.symm.trans e3
      rw [e4]
      exact q_upL_self _ _ _ _
    · exact absurd hc hn9
  · exact ⟨q_up_self _ _ _ _, fun z => absurd z (q_xc_ne hx (by decide)), n, ns, q_Rel_sm h (q_sm_19 V _) rfl rfl⟩
