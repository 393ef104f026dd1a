/-- the first n of the row l are a ring -/
def q_cyc (gt : Nat → Nat → Prop) (l : List Nat) (n : Nat) : Prop := 2 ≤ n ∧ n ≤ l.length ∧ (∀ i, i + 1 < n → gt (l.getD i 0) (l.getD (i + 1) 0)) ∧ gt (l.getD (n - 1) 0) (l.getD 0 0)
theorem q_gde {l : List Nat} {i : Nat} (h : i < l.length) : l.getD i 0 = l[i] := by simp [List.getD, h]
theorem q_nd {l : List Nat} (h : l.Nodup) {i j : Nat} (hi : i < l.length) (hj : j < l.length) (hij : i ≠ j) : l.getD i 0 ≠ l.getD j 0 := by
  rw [q_gde hi, q_gde hj]
  rcases Nat.lt_or_ge i j with h1 | h1
  · exact List.pairwise_iff_getElem.mp h i j hi hj h1
  · exact fun e => List.pairwise_iff_getElem.mp h j i hj hi (by omega) e.symm
theorem q_gd_mem {l : List Nat} {i : Nat} (hi : i < l.length) : l.getD i 0 ∈ l := by
  rw [q_gde hi]
  exact List.getElem_mem hi
theorem q_least (f : Nat → Nat) : ∀ n : Nat, 0 < n → ∃ t, t < n ∧ ∀ i, i < n → f t ≤ f i
  | 0, h => absurd h (Nat.lt_irrefl 0)
  | 1, _ => ⟨0, by decide, fun i hi => by rw [show i = 0 by omega]; exact Nat.le_refl _⟩
  | n + 2, _ => by
    obtain ⟨t, ht, hm⟩ := q_least f (n + 1) (by omega)
    by_cases h : f t ≤ f (n + 1)
    · refine ⟨t, by omega, fun i hi => ?_⟩
      by_cases e : i = n + 1
      · subst e; exact h
      · exact hm i (by omega)
    · refine ⟨n + 1, by omega, fun i hi => ?_⟩
      by_cases e : i = n + 1
      · subst e; exact Nat.le_refl _
      · have := hm i (by omega); omega
theorem q_rot {rd : Nat → Prop} {gt : Nat → Nat → Prop} {l : List Nat} {n : Nat} (h7 : l.length ≤ 7) (hd : l.Nodup) (hl : ∀ y ∈ l, y < 7 ∧ rd y) (hc : q_cyc gt l n) : n ≤ (q_best rd gt).length := by
  obtain ⟨hn2, hnl, hg, hz⟩ := hc
  obtain ⟨t, ht, hm⟩ := q_least (fun i => l.getD i 0) n (by omega)
  have hix : ∀ i, i < n → (t + i) % n = if t + i < n then t + i else t + i - n := by
    intro i hi
    by_cases h : t + i < n
    · rw [if_pos h, Nat.mod_eq_of_lt h]
    · rw [if_neg h, Nat.mod_eq_sub_mod (by omega), Nat.mod_eq_of_lt (by omega)]
  have hil : ∀ i, i < n → (t + i) % n < n := fun i _ => Nat.mod_lt _ (by omega)
  have hcl : ((List.range n).map (fun i => l.getD ((t + i) % n) 0)).length = n := by simp
  have hcg : ∀ i, i < n → ((List.range n).map (fun i => l.getD ((t + i) % n) 0)).getD i 0 = l.getD ((t + i) % n) 0 := by
    intro i hi
    rw [q_gde (by simpa using hi)]
    simp
  have hnx : ∀ i, i + 1 < n → gt (l.getD ((t + i) % n) 0) (l.getD ((t + (i + 1)) % n) 0) := by
    intro i hi
    rw [hix i (by omega), hix (i + 1) hi]
    by_cases h1 : t + (i + 1) < n
    · rw [if_pos (by omega), if_pos h1]
      exact hg (t + i) (by omega)
    · rw [if_neg h1]
      by_cases h2 : t + i < n
      · rw [if_pos h2, show t + i = n - 1 by omega, show t + (i + 1) - n = 0 by omega]
        exact hz
      · rw [if_neg h2, show t + (i + 1) - n = (t + i - n) + 1 by omega]
        exact hg (t + i - n) (by omega)
  have ht0 : (t + 0) % n = t := by rw [hix 0 (by omega), if_pos (by omega), Nat.add_zero]
  have hne : ∀ i j, i < n → j < n → i ≠ j → (t + i) % n ≠ (t + j) % n := by
    intro i j hi hj hij
    rw [hix i hi, hix j hj]
    split <;> split <;> omega
  have h9 := q_best_max (rd := rd) (gt := gt) (c := (List.range n).map (fun i => l.getD ((t + i) % n) 0)) (fun i hi => by
      rw [hcl] at hi
      rw [hcl, hcg i hi]
      have hm1 := hl _ (q_gd_mem (show (t + i) % n < l.length by have := hil i hi; omega))
      refine ⟨hm1.1, hm1.2, fun h0 => ?_, fun j hj => ?_, fun hi2 => ?_⟩
      · rw [hcg 0 (by omega), ht0]
        exact Nat.lt_of_le_of_ne (hm _ (hil i hi)) (q_nd hd (by omega) (by have := hil i hi; omega) (by have := hne 0 i (by omega) hi (by omega); rw [ht0] at this; exact this))
      · rw [hcg j (by omega)]
        exact q_nd hd (by have := hil j (by omega); omega) (by have := hil i hi; omega) (hne j i (by omega) hi (by omega))
      · rw [hcg (i + 1) hi2]
        exact hnx i hi2) ⟨by rw [hcl]; exact hn2, by
      unfold q_la
      rw [hcl, hcg (n - 1) (by omega), hcg 0 (by omega), ht0, hix (n - 1) (by omega)]
      by_cases h0 : t = 0
      · subst h0
        rw [if_pos (by omega), Nat.zero_add]
        exact hz
      · rw [if_neg (by omega)]
        have h8 := hg (t - 1) (by omega)
        rw [show t - 1 + 1 = t by omega] at h8
        rw [show t + (n - 1) - n = t - 1 by omega]
        exact h8⟩ (by rw [hcl]; omega)
  rw [hcl] at h9
  exact h9
noncomputable def q_rl (rd : Nat → Prop) : List Nat := (List.range 7).filter (fun a => @decide (rd a) (Classical.propDecidable _))
theorem q_rl_mem {rd : Nat → Prop} {a : Nat} : a ∈ q_rl rd ↔ a < 7 ∧ rd a := by
  unfold q_rl
  rw [List.mem_filter, List.mem_range]
  exact and_congr_right (fun _ => @decide_eq_true_iff (rd a) (Classical.propDecidable _))
theorem q_rl_sel (rd : Nat → Prop) : q_sel (q_rl rd) := ⟨_, rfl⟩
theorem q_rl_len (rd : Nat → Prop) : (q_rl rd).length ≤ 7 := by
  have h := List.length_filter_le (fun a => @decide (rd a) (Classical.propDecidable _)) (List.range 7)
  exact h
theorem q_done {rd : Nat → Prop} {gt : Nat → Nat → Prop} {n : Nat} (h1 : ∀ l ∈ q_perms (q_rl rd).length (q_rl rd), ∀ k, q_cyc gt l k → k ≤ n) (h2 : n = 0 ∨ ∃ l ∈ q_perms (q_rl rd).length (q_rl rd), q_cyc gt l n) : n = (q_best rd gt).length := by
  apply Nat.le_antisymm
  · rcases h2 with h2 | ⟨l, hl, hc⟩
    · rw [h2]; exact Nat.zero_le _
    · obtain ⟨e1, e2, e3⟩ := q_perms_is _ _ _ hl
      exact q_rot (by have := q_rl_len rd; omega) e3 (fun y hy => q_rl_mem.mp (e2 y hy)) hc
  · rcases q_best_ok rd gt with h | ⟨hv, hc⟩
    · rw [h]; exact Nat.zero_le _
    · have hlen := q_best_len rd gt
      obtain ⟨t, ht⟩ := q_perms_pre _ (q_rl rd) (q_best rd gt) rfl (q_rl_sel rd) (fun y hy => by
        obtain ⟨i, hi, e⟩ := List.getElem_of_mem hy
        have h9 := hv i hi
        rw [q_gde hi, e] at h9
        exact q_rl_mem.mpr ⟨h9.1, h9.2.1⟩) (by
        refine List.pairwise_iff_getElem.mpr (fun i j hi hj hij => ?_)
        have h9 := (hv j hj).2.2.2.1 i hij
        rw [q_gde hi, q_gde hj] at h9
        exact h9)
      have eg : ∀ i, i < (q_best rd gt).length → (q_best rd gt ++ t).getD i 0 = (q_best rd gt).getD i 0 := fun i hi => by simp [List.getD, List.getElem?_append_left hi]
      refine h1 _ ht _ ⟨hc.1, by rw [List.length_append]; omega, fun i hi => ?_, ?_⟩
      · rw [eg i (by omega), eg (i + 1) hi]
        exact (hv i (by omega)).2.2.2.2 hi
      · have h2c := hc.1
        rw [eg _ (by omega), eg 0 (by omega)]
        exact hc.2
