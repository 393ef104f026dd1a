set_option maxRecDepth 100000 in
theorem q_sim_hand {V : q_V} {G : q_G} {n ns : Nat} (h : q_Rel V G n ns) (x y : Int32) {k r : Int32} {V' V'' : q_V} {G' G'' : q_G} (hL : (∃ r V1 G1, (fun r V' G' => (q_c1 (q_ok 7 x ∧ q_ok 8 y)) = 0 ∧ (V (20 + q_n x) (q_n y)) = r ∧ V = V' ∧ G = G') r V1 G1 ∧ (0 : Int32) = k ∧ V1 = V' ∧ q_upL G1 18 0 r.toInt64 = G') ∨ (∃ E, (fun E V' G' => q_xc [xI] (q_c1 (q_ok 7 x ∧ q_ok 8 y)) E ∧ V = V' ∧ G = G') E V' G' ∧ nI (q_c1 (q_ok 7 x ∧ q_ok 8 y)) = k)) (hM : q_mres V' (q_c1 (q_ok 7 x ∧ q_ok 8 y)) (V' 69 (8 * q_n x + q_n y)) (q_up V' 19 0 (nI 0)) r V'' ∧ G' = G'') : q_stepR k r.toInt64 V'' G'' := by
  obtain ⟨h1, h2, h3, h4, h5, h6, h7, h8, h9, h10⟩ := id h
  have hn := h4.2.2.1
  have hns := h6.2.2.1
  refine q_simG (cM := id) (rM := id) h (by decide) (fun U => (q_c1 (q_ok 7 x ∧ q_ok 8 y))) (fun U => (U 69 (8 * q_n x + q_n y))) (fun U => q_up U 19 0 (nI 0)) hL hM ?_ ?_
  · intro hc
    rfl
  · intro hc
    obtain ⟨⟨a, ha, rfl⟩, ⟨c, hc8, rfl⟩⟩ := q_c1_of hc
    refine ⟨hc, ?_, rfl, n, ns, q_Rel_sm h (q_sm_19 V _) rfl rfl⟩
    rw [q_n_nI (n := a) (by omega), q_n_nI (n := c) (by omega)]
    exact h1 a c ha hc8
set_option maxRecDepth 100000 in
theorem q_sim_brought {V : q_V} {G : q_G} {n ns : Nat} (h : q_Rel V G n ns) (y : Int32) {k r : Int32} {V' V'' : q_V} {G' G'' : q_G} (hL : (∃ r V1 G1, (fun r V' G' => (q_c1 (q_ok 8 y)) = 0 ∧ (V 3 (q_n y)) = r ∧ V = V' ∧ G = G') r V1 G1 ∧ (0 : Int32) = k ∧ V1 = V' ∧ q_upL G1 18 0 r.toInt64 = G') ∨ (∃ E, (fun E V' G' => q_xc [xI] (q_c1 (q_ok 8 y)) E ∧ V = V' ∧ G = G') E V' G' ∧ nI (q_c1 (q_ok 8 y)) = k)) (hM : q_mres V' (q_c1 (q_ok 8 y)) (V' 71 (q_n y)) (q_up V' 19 0 (nI 0)) r V'' ∧ G' = G'') : q_stepR k r.toInt64 V'' G'' := by
  obtain ⟨h1, h2, h3, h4, h5, h6, h7, h8, h9, h10⟩ := id h
  have hn := h4.2.2.1
  have hns := h6.2.2.1
  refine q_simG (cM := id) (rM := id) h (by decide) (fun U => (q_c1 (q_ok 8 y))) (fun U => (U 71 (q_n y))) (fun U => q_up U 19 0 (nI 0)) hL hM ?_ ?_
  · intro hc
    rfl
  · intro hc
    obtain ⟨c, hc8, rfl⟩ := q_c1_of hc
    refine ⟨hc, ?_, rfl, n, ns, q_Rel_sm h (q_sm_19 V _) rfl rfl⟩
    rw [q_n_nI (n := c) (by omega)]
    exact (h2 c hc8).2
set_option maxRecDepth 100000 in
theorem q_sim_credits {V : q_V} {G : q_G} {n ns : Nat} (h : q_Rel V G n ns) (x : Int32) {k r : Int32} {V' V'' : q_V} {G' G'' : q_G} (hL : (∃ r V1 G1, (fun r V' G' => (q_c1 (q_ok 7 x)) = 0 ∧ (V 8 (q_n x)) = r ∧ V = V' ∧ G = G') r V1 G1 ∧ (0 : Int32) = k ∧ V1 = V' ∧ q_upL G1 18 0 r.toInt64 = G') ∨ (∃ E, (fun E V' G' => q_xc [xI] (q_c1 (q_ok 7 x)) E ∧ V = V' ∧ G = G') E V' G' ∧ nI (q_c1 (q_ok 7 x)) = k)) (hM : q_mres V' (q_c1 (q_ok 7 x)) (V' 80 (q_n x)) (q_up V' 19 0 (nI 0)) r V'' ∧ G' = G'') : q_stepR k r.toInt64 V'' G'' := by
  obtain ⟨h1, h2, h3, h4, h5, h6, h7, h8, h9, h10⟩ := id h
  have hn := h4.2.2.1
  have hns := h6.2.2.1
  refine q_simG (cM := id) (rM := id) h (by decide) (fun U => (q_c1 (q_ok 7 x))) (fun U => (U 80 (q_n x))) (fun U => q_up U 19 0 (nI 0)) hL hM ?_ ?_
  · intro hc
    rfl
  · intro hc
    obtain ⟨a, ha, rfl⟩ := q_c1_of hc
    refine ⟨hc, ?_, rfl, n, ns, q_Rel_sm h (q_sm_19 V _) rfl rfl⟩
    rw [q_n_nI (n := a) (by omega)]
    exact h8 a ha
set_option maxRecDepth 100000 in
theorem q_sim_owner {V : q_V} {G : q_G} {n ns : Nat} (h : q_Rel V G n ns) (x : Int32) {k r : Int32} {V' V'' : q_V} {G' G'' : q_G} (hL : (∃ r V1 G1, (fun r V' G' => (q_c1 (q_cisb V x)) = 0 ∧ (V 7 (q_n x)) = r ∧ V = V' ∧ G = G') r V1 G1 ∧ (0 : Int32) = k ∧ V1 = V' ∧ q_upL G1 18 0 r.toInt64 = G') ∨ (∃ E, (fun E V' G' => q_xc [xI] (q_c1 (q_cisb V x)) E ∧ V = V' ∧ G = G') E V' G' ∧ nI (q_c1 (q_cisb V x)) = k)) (hM : q_mres V' (q_c1 (q_isb V' x)) (V' 79 (q_n x)) (q_up V' 19 0 (nI 0)) r V'' ∧ G' = G'') : q_stepR k r.toInt64 V'' G'' := by
  obtain ⟨h1, h2, h3, h4, h5, h6, h7, h8, h9, h10⟩ := id h
  have hn := h4.2.2.1
  have hns := h6.2.2.1
  refine q_simG (cM := id) (rM := id) h (by decide) (fun U => (q_c1 (q_isb U x))) (fun U => (U 79 (q_n x))) (fun U => q_up U 19 0 (nI 0)) hL hM ?_ ?_
  · intro hc
    rw [propext (q_Rel_isb h7 x)]
  · intro hc
    have eB : q_isb V x = q_cisb V x := propext (q_Rel_isb h7 x)
    obtain ⟨b, hb, e, hb9⟩ := q_c1_of hc
    refine ⟨by rw [eB]; exact hc, ?_, rfl, n, ns, q_Rel_sm h (q_sm_19 V _) rfl rfl⟩
    subst e
    rw [q_n_nI (n := b) (by omega)]
    exact (h7 b hb).2.1
set_option maxRecDepth 100000 in
theorem q_sim_needs {V : q_V} {G : q_G} {n ns : Nat} (h : q_Rel V G n ns) (x y : Int32) {k r : Int32} {V' V'' : q_V} {G' G'' : q_G} (hL : (∃ r V1 G1, (fun r V' G' => (q_c1 (q_ok n x ∧ q_ok 8 y)) = 0 ∧ (nI (q_cneeds V (q_n x) y)) = r ∧ V = V' ∧ G = G') r V1 G1 ∧ (0 : Int32) = k ∧ V1 = V' ∧ q_upL G1 18 0 r.toInt64 = G') ∨ (∃ E, (fun E V' G' => q_xc [xI] (q_c1 (q_ok n x ∧ q_ok 8 y)) E ∧ V = V' ∧ G = G') E V' G' ∧ nI (q_c1 (q_ok n x ∧ q_ok 8 y)) = k)) (hM : q_mres V' (q_c1 (q_ok n x ∧ q_ok 8 y)) (nI (q_mneeds V' (q_n x) y)) (q_up V' 19 0 (nI 0)) r V'' ∧ G' = G'') : q_stepR k r.toInt64 V'' G'' := by
  obtain ⟨h1, h2, h3, h4, h5, h6, h7, h8, h9, h10⟩ := id h
  have hn := h4.2.2.1
  have hns := h6.2.2.1
  refine q_simG (cM := id) (rM := id) h (by decide) (fun U => (q_c1 (q_ok n x ∧ q_ok 8 y))) (fun U => (nI (q_mneeds U (q_n x) y))) (fun U => q_up U 19 0 (nI 0)) hL hM ?_ ?_
  · intro hc
    rfl
  · intro hc
    obtain ⟨⟨pa, hpa, rfl⟩, -⟩ := q_c1_of hc
    refine ⟨hc, ?_, rfl, n, ns, q_Rel_sm h (q_sm_19 V _) rfl rfl⟩
    rw [q_n_nI (n := pa) (by omega)]
    rw [q_Rel_need h4 hpa]
theorem q_rc_inj {r c b a w : Nat} (hc : c < w) (ha : a < w) (e : r * w + c = b * w + a) : r = b ∧ c = a := by
  have hw : 0 < w := by omega
  have d1 : (r * w + c) / w = r := by rw [Nat.add_comm, Nat.add_mul_div_right _ _ hw, Nat.div_eq_of_lt hc, Nat.zero_add]
  have d2 : (b * w + a) / w = b := by rw [Nat.add_comm, Nat.add_mul_div_right _ _ hw, Nat.div_eq_of_lt ha, Nat.zero_add]
  have h1 : r = b := by rw [← d1, e, d2]
  subst h1
  exact ⟨rfl, by omega⟩
set_option maxRecDepth 100000 in
theorem q_sim_beads {V : q_V} {G : q_G} {n ns : Nat} (h : q_Rel V G n ns) (y : Int32) {k r : Int32} {V' V'' : q_V} {G' G'' : q_G} (hL : (∃ r V1 G1, (fun r V' G' => (q_c1 (q_ok 8 y)) = 0 ∧ (q_cbs V (q_n y) 20) = r ∧ V = V' ∧ G = G') r V1 G1 ∧ (0 : Int32) = k ∧ V1 = V' ∧ q_upL G1 18 0 r.toInt64 = G') ∨ (∃ E, (fun E V' G' => q_xc [xI] (q_c1 (q_ok 8 y)) E ∧ V = V' ∧ G = G') E V' G' ∧ nI (q_c1 (q_ok 8 y)) = k)) (hM : q_mres V' (q_c1 (q_ok 8 y)) (q_mbs V' (q_n y) 20) (q_up V' 19 0 (nI 0)) r V'' ∧ G' = G'') : q_stepR k r.toInt64 V'' G'' := by
  obtain ⟨h1, h2, h3, h4, h5, h6, h7, h8, h9, h10⟩ := id h
  have hn := h4.2.2.1
  have hns := h6.2.2.1
  refine q_simG (cM := id) (rM := id) h (by decide) (fun U => (q_c1 (q_ok 8 y))) (fun U => (q_mbs U (q_n y) 20)) (fun U => q_up U 19 0 (nI 0)) hL hM ?_ ?_
  · intro hc
    rfl
  · intro hc
    obtain ⟨c, hc8, rfl⟩ := q_c1_of hc
    refine ⟨hc, ?_, rfl, n, ns, q_Rel_sm h (q_sm_19 V _) rfl rfl⟩
    rw [q_n_nI (n := c) (by omega)]
    exact q_Rel_bs h1 h2 h4 h7 hc8 20 (Nat.le_refl _)
set_option maxRecDepth 100000 in
theorem q_sim_story {V : q_V} {G : q_G} {n ns : Nat} (h : q_Rel V G n ns) (x : Int32) {k r : Int32} {V' V'' : q_V} {G' G'' : q_G} (hL : (∃ r V1 G1, (fun r V' G' => (q_c1 (q_ok n x)) = 0 ∧ (q_cstory V (q_n x) ns) = r ∧ V = V' ∧ G = G') r V1 G1 ∧ (0 : Int32) = k ∧ V1 = V' ∧ q_upL G1 18 0 r.toInt64 = G') ∨ (∃ E, (fun E V' G' => q_xc [xI] (q_c1 (q_ok n x)) E ∧ V = V' ∧ G = G') E V' G' ∧ nI (q_c1 (q_ok n x)) = k)) (hM : q_mres V' (q_c1 (q_ok n x)) (q_mstory V' (q_n x) ns) (q_up V' 19 0 (nI 0)) r V'' ∧ G' = G'') : q_stepR k r.toInt64 V'' G'' := by
  obtain ⟨h1, h2, h3, h4, h5, h6, h7, h8, h9, h10⟩ := id h
  have hn := h4.2.2.1
  have hns := h6.2.2.1
  refine q_simG (cM := id) (rM := id) h (by decide) (fun U => (q_c1 (q_ok n x))) (fun U => (q_mstory U (q_n x) ns)) (fun U => q_up U 19 0 (nI 0)) hL hM ?_ ?_
  · intro hc
    rfl
  · intro hc
    obtain ⟨pa, hpa, rfl⟩ := q_c1_of hc
    refine ⟨hc, ?_, rfl, n, ns, q_Rel_sm h (q_sm_19 V _) rfl rfl⟩
    rw [q_n_nI (n := pa) (by omega)]
    exact q_Rel_story h4 h6 hpa ns (Nat.le_refl _)
set_option maxRecDepth 100000 in
theorem q_sim_stands {V : q_V} {G : q_G} {n ns : Nat} (h : q_Rel V G n ns) (x y : Int32) {k r : Int32} {V' V'' : q_V} {G' G'' : q_G} (hL : (∃ r V1 G1, (fun r V' G' => (q_c1 (q_ok ns x ∧ q_ok n y)) = 0 ∧ (nI (q_places V (1 + q_n y) (q_gw V (1 + q_n y)) (q_gh V (1 + q_n y)) (13 + q_n x) (q_gw V (13 + q_n x)) (q_gh V (13 + q_n x)))) = r ∧ V = V' ∧ G = G') r V1 G1 ∧ (0 : Int32) = k ∧ V1 = V' ∧ q_upL G1 18 0 r.toInt64 = G') ∨ (∃ E, (fun E V' G' => q_xc [xI] (q_c1 (q_ok ns x ∧ q_ok n y)) E ∧ V = V' ∧ G = G') E V' G' ∧ nI (q_c1 (q_ok ns x ∧ q_ok n y)) = k)) (hM : q_mres V' (q_c1 (q_ok ns x ∧ q_ok n y)) (nI (q_mplaces V' (q_n x) (q_n y) (q_n (V' 73 (q_n y))) (q_n (V' 74 (q_n y))) (q_n (V' 85 (q_n x))) (q_n (V' 86 (q_n x))))) (q_up V' 19 0 (nI 0)) r V'' ∧ G' = G'') : q_stepR k r.toInt64 V'' G'' := by
  obtain ⟨h1, h2, h3, h4, h5, h6, h7, h8, h9, h10⟩ := id h
  have hn := h4.2.2.1
  have hns := h6.2.2.1
  refine q_simG (cM := id) (rM := id) h (by decide) (fun U => (q_c1 (q_ok ns x ∧ q_ok n y))) (fun U => (nI (q_mplaces U (q_n x) (q_n y) (q_n (U 73 (q_n y))) (q_n (U 74 (q_n y))) (q_n (U 85 (q_n x))) (q_n (U 86 (q_n x)))))) (fun U => q_up U 19 0 (nI 0)) hL hM ?_ ?_
  · intro hc
    rfl
  · intro hc
    obtain ⟨⟨t, ht, rfl⟩, ⟨pa, hpa, rfl⟩⟩ := q_c1_of hc
    refine ⟨hc, ?_, rfl, n, ns, q_Rel_sm h (q_sm_19 V _) rfl rfl⟩
    rw [q_n_nI (n := t) (by omega), q_n_nI (n := pa) (by omega)]
    rw [q_Rel_places h4 h6 hpa ht]
set_option maxRecDepth 100000 in
theorem q_sim_symmetries {V : q_V} {G : q_G} {n ns : Nat} (h : q_Rel V G n ns) (x : Int32) {k r : Int32} {V' V'' : q_V} {G' G'' : q_G} (hL : (∃ r V1 G1, (fun r V' G' => (q_c1 (q_ok n x)) = 0 ∧ (nI (q_b (q_calk V (q_n x) (q_n x) 4) 1 + q_b (q_calk V (q_n x) (q_n x) 6) 2 + q_b (q_calk V (q_n x) (q_n x) 2) 4 + q_b (q_calk V (q_n x) (q_n x) 1) 8)) = r ∧ V = V' ∧ G = G') r V1 G1 ∧ (0 : Int32) = k ∧ V1 = V' ∧ q_upL G1 18 0 r.toInt64 = G') ∨ (∃ E, (fun E V' G' => q_xc [xI] (q_c1 (q_ok n x)) E ∧ V = V' ∧ G = G') E V' G' ∧ nI (q_c1 (q_ok n x)) = k)) (hM : q_mres V' (q_c1 (q_ok n x)) (nI (q_b (q_malk V' (q_n x) (q_n x) 4) 1 + q_b (q_malk V' (q_n x) (q_n x) 6) 2 + q_b (q_malk V' (q_n x) (q_n x) 2) 4 + q_b (q_malk V' (q_n x) (q_n x) 1) 8)) (q_up V' 19 0 (nI 0)) r V'' ∧ G' = G'') : q_stepR k r.toInt64 V'' G'' := by
  obtain ⟨h1, h2, h3, h4, h5, h6, h7, h8, h9, h10⟩ := id h
  have hn := h4.2.2.1
  have hns := h6.2.2.1
  refine q_simG (cM := id) (rM := id) h (by decide) (fun U => (q_c1 (q_ok n x))) (fun U => (nI (q_b (q_malk U (q_n x) (q_n x) 4) 1 + q_b (q_malk U (q_n x) (q_n x) 6) 2 + q_b (q_malk U (q_n x) (q_n x) 2) 4 + q_b (q_malk U (q_n x) (q_n x) 1) 8))) (fun U => q_up U 19 0 (nI 0)) hL hM ?_ ?_
  · intro hc
    rfl
  · intro hc
    obtain ⟨pa, hpa, rfl⟩ := q_c1_of hc
    refine ⟨hc, ?_, rfl, n, ns, q_Rel_sm h (q_sm_19 V _) rfl rfl⟩
    rw [q_n_nI (n := pa) (by omega)]
    rw [propext (q_Rel_alk h4 hpa hpa (k := 4) (by decide)), propext (q_Rel_alk h4 hpa hpa (k := 6) (by decide)), propext (q_Rel_alk h4 hpa hpa (k := 2) (by decide)), propext (q_Rel_alk h4 hpa hpa (k := 1) (by decide))]
set_option maxRecDepth 100000 in
theorem q_sim_bring {V : q_V} {G : q_G} {n ns : Nat} (h : q_Rel V G n ns) (x y z : Int32) {k r : Int32} {V' V'' : q_V} {G' G'' : q_G} (hL : (∃ r V1 G1, (fun r V' G' => (q_c3 (q_ok 7 x ∧ q_ok 8 y) (¬ z < nI 1 ∧ ¬ nI 1000 < z) (V (20 + q_n x) (q_n y) + z ≤ nI 100000)) = 0 ∧ (V (20 + q_n x) (q_n y) + z) = r ∧ (q_up (q_up V (20 + q_n x) (q_n y) (V (20 + q_n x) (q_n y) + z)) 3 (q_n y) (V 3 (q_n y) + z)) = V' ∧ G = G') r V1 G1 ∧ (0 : Int32) = k ∧ V1 = V' ∧ q_upL G1 18 0 r.toInt64 = G') ∨ (∃ E, (fun E V' G' => q_xc [xI, xA, xS] (q_c3 (q_ok 7 x ∧ q_ok 8 y) (¬ z < nI 1 ∧ ¬ nI 1000 < z) (V (20 + q_n x) (q_n y) + z ≤ nI 100000)) E ∧ V = V' ∧ G = G') E V' G' ∧ nI (q_c3 (q_ok 7 x ∧ q_ok 8 y) (¬ z < nI 1 ∧ ¬ nI 1000 < z) (V (20 + q_n x) (q_n y) + z ≤ nI 100000)) = k)) (hM : q_mres V' (q_c3 (q_ok 7 x ∧ q_ok 8 y) (¬ z < nI 1 ∧ ¬ nI 1000 < z) (V' 69 (8 * q_n x + q_n y) + z ≤ nI 100000)) (V' 69 (8 * q_n x + q_n y) + z) ((q_up (q_up (q_up V' 19 0 (nI 0)) 69 (8 * q_n x + q_n y) (V' 69 (8 * q_n x + q_n y) + z)) 71 (q_n y) (V' 71 (q_n y) + z))) r V'' ∧ G' = G'') : q_stepR k r.toInt64 V'' G'' := by
  obtain ⟨h1, h2, h3, h4, h5, h6, h7, h8, h9, h10⟩ := id h
  have hn := h4.2.2.1
  have hns := h6.2.2.1
  refine q_simG (cM := id) (rM := id) h (by decide) (fun U => (q_c3 (q_ok 7 x ∧ q_ok 8 y) (¬ z < nI 1 ∧ ¬ nI 1000 < z) (U 69 (8 * q_n x + q_n y) + z ≤ nI 100000))) (fun U => (U 69 (8 * q_n x + q_n y) + z)) (fun U => (q_up (q_up (q_up U 19 0 (nI 0)) 69 (8 * q_n x + q_n y) (U 69 (8 * q_n x + q_n y) + z)) 71 (q_n y) (U 71 (q_n y) + z))) hL hM ?_ ?_
  · intro hc
    by_cases hp : q_ok 7 x ∧ q_ok 8 y
    · obtain ⟨⟨a, ha, rfl⟩, ⟨c, hc8, rfl⟩⟩ := hp
      rw [q_n_nI (n := a) (by omega), q_n_nI (n := c) (by omega)]
      rw [h1 a c ha hc8]
    · rw [q_c3_1 hp, q_c3_1 hp]
  · intro hc
    obtain ⟨⟨⟨a, ha, rfl⟩, ⟨c, hc8, rfl⟩⟩, hz, hf⟩ := q_c3_of hc
    rw [q_n_nI (n := a) (by omega), q_n_nI (n := c) (by omega)]
    rw [q_n_nI (n := a) (by omega), q_n_nI (n := c) (by omega)] at hf
    have e69 : q_up (q_up V (20 + a) c (V (20 + a) c + z)) 3 c (V 3 c + z) 69 (8 * a + c) = V (20 + a) c := by
      repeat rw [q_up_ne _ _ (by omega)]
      exact h1 a c ha hc8
    have e71 : q_up (q_up V (20 + a) c (V (20 + a) c + z)) 3 c (V 3 c + z) 71 c = V 3 c := by
      repeat rw [q_up_ne _ _ (by omega)]
      exact (h2 c hc8).2
    rw [e69, e71]
    refine ⟨q_c3_0 ⟨q_ok_nI ha, q_ok_nI hc8⟩ hz hf, rfl, (by (repeat rw [q_up_ne _ _ (by omega)]); exact (q_up_self _ _ _ _).trans nI_0), n, ns, ⟨?_, ?_, q_R3_fr h3 ⟨(by repeat rw [q_up_off _ _ (by omega)]), (by repeat rw [q_up_off _ _ (by omega)])⟩ (by repeat rw [q_up_ne _ _ (by omega)]) (by repeat rw [q_up_ne _ _ (by omega)]) (by repeat rw [q_up_off _ _ (by omega)]), q_R4_fr h4 (fun pa hpa => ⟨(by repeat rw [q_up_off _ _ (by omega)]), (by repeat rw [q_up_off _ _ (by omega)])⟩) (by repeat rw [q_up_ne _ _ (by omega)]) (by repeat rw [q_up_ne _ _ (by omega)]) (by repeat rw [q_up_off _ _ (by omega)]) (by repeat rw [q_up_off _ _ (by omega)]) (by repeat rw [q_up_off _ _ (by omega)]), q_R5_fr h5 (fun pa hpa => ⟨(by repeat rw [q_up_off _ _ (by omega)]), (by repeat rw [q_up_off _ _ (by omega)])⟩) (by repeat rw [q_up_off _ _ (by omega)]) (by repeat rw [q_up_off _ _ (by omega)]) (by repeat rw [q_up_off _ _ (by omega)]), q_R6_fr h6 (fun t ht => ⟨(by repeat rw [q_up_off _ _ (by omega)]), (by repeat rw [q_up_off _ _ (by omega)])⟩) (by repeat rw [q_up_ne _ _ (by omega)]) (by repeat rw [q_up_ne _ _ (by omega)]) (by repeat rw [q_up_off _ _ (by omega)]) (by repeat rw [q_up_off _ _ (by omega)]) (by repeat rw [q_up_off _ _ (by omega)]) (by repeat rw [q_up_off _ _ (by omega)]) (by repeat rw [q_up_off _ _ (by omega)]), q_R7_fr h7 (by repeat rw [q_up_off _ _ (by omega)]) (by repeat rw [q_up_off _ _ (by omega)]) (by repeat rw [q_up_off _ _ (by omega)]) (by repeat rw [q_up_off _ _ (by omega)]), q_R8_fr h8 (by repeat rw [q_up_off _ _ (by omega)]) (by repeat rw [q_up_off _ _ (by omega)]), q_R9_fr h9 (by repeat rw [q_up_off _ _ (by omega)]) (by repeat rw [q_up_off _ _ (by omega)]) (by repeat rw [q_up_off _ _ (by omega)]) (by repeat rw [q_up_off _ _ (by omega)]), h10⟩⟩
    · intro p e hp he
      by_cases hpe : p = a ∧ e = c
      · obtain ⟨rfl, rfl⟩ := hpe
        repeat first | rw [q_up_self] | rw [q_up_ne _ _ (by omega)]
      · repeat rw [q_up_ne _ _ (by omega)]
        exact h1 p e hp he
    · intro e he
      by_cases hec : e = c
      · subst hec
        refine ⟨?_, ?_⟩
        · repeat rw [q_up_ne _ _ (by omega)]
          exact (h2 e he).1
        · repeat first | rw [q_up_self] | rw [q_up_ne _ _ (by omega)]
      · repeat rw [q_up_ne _ _ (by omega)]
        exact h2 e he
set_option maxRecDepth 100000 in
theorem q_sim_lay {V : q_V} {G : q_G} {n ns : Nat} (h : q_Rel V G n ns) (x y z : Int32) {k r : Int32} {V' V'' : q_V} {G' G'' : q_G} (hL : (∃ r V1 G1, (fun r V' G' => (q_c3 (q_ok 7 x ∧ q_ok 8 y) (¬ z < -1000 ∧ ¬ nI 1000 < z) (¬ V (20 + q_n x) (q_n y) - z < 0 ∧ ¬ nI 100000 < V (20 + q_n x) (q_n y) - z ∧ 0 ≤ V 2 (q_n y) + z)) = 0 ∧ (V 2 (q_n y) + z) = r ∧ (q_up (q_up V (20 + q_n x) (q_n y) (V (20 + q_n x) (q_n y) - z)) 2 (q_n y) (V 2 (q_n y) + z)) = V' ∧ G = G') r V1 G1 ∧ (0 : Int32) = k ∧ V1 = V' ∧ q_upL G1 18 0 r.toInt64 = G') ∨ (∃ E, (fun E V' G' => q_xc [xI, xA, xS] (q_c3 (q_ok 7 x ∧ q_ok 8 y) (¬ z < -1000 ∧ ¬ nI 1000 < z) (¬ V (20 + q_n x) (q_n y) - z < 0 ∧ ¬ nI 100000 < V (20 + q_n x) (q_n y) - z ∧ 0 ≤ V 2 (q_n y) + z)) E ∧ V = V' ∧ G = G') E V' G' ∧ nI (q_c3 (q_ok 7 x ∧ q_ok 8 y) (¬ z < -1000 ∧ ¬ nI 1000 < z) (¬ V (20 + q_n x) (q_n y) - z < 0 ∧ ¬ nI 100000 < V (20 + q_n x) (q_n y) - z ∧ 0 ≤ V 2 (q_n y) + z)) = k)) (hM : q_mres V' (q_c3 (q_ok 7 x ∧ q_ok 8 y) (¬ z < -1000 ∧ ¬ nI 1000 < z) (¬ V' 69 (8 * q_n x + q_n y) - z < 0 ∧ ¬ nI 100000 < V' 69 (8 * q_n x + q_n y) - z ∧ 0 ≤ V' 70 (q_n y) + z)) (V' 70 (q_n y) + z) ((q_up (q_up (q_up V' 19 0 (nI 0)) 69 (8 * q_n x + q_n y) (V' 69 (8 * q_n x + q_n y) - z)) 70 (q_n y) (V' 70 (q_n y) + z))) r V'' ∧ G' = G'') : q_stepR k r.toInt64 V'' G'' := by
  obtain ⟨h1, h2, h3, h4, h5, h6, h7, h8, h9, h10⟩ := id h
  have hn := h4.2.2.1
  have hns := h6.2.2.1
  refine q_simG (cM := id) (rM := id) h (by decide) (fun U => (q_c3 (q_ok 7 x ∧ q_ok 8 y) (¬ z < -1000 ∧ ¬ nI 1000 < z) (¬ U 69 (8 * q_n x + q_n y) - z < 0 ∧ ¬ nI 100000 < U 69 (8 * q_n x + q_n y) - z ∧ 0 ≤ U 70 (q_n y) + z))) (fun U => (U 70 (q_n y) + z)) (fun U => (q_up (q_up (q_up U 19 0 (nI 0)) 69 (8 * q_n x + q_n y) (U 69 (8 * q_n x + q_n y) - z)) 70 (q_n y) (U 70 (q_n y) + z))) hL hM ?_ ?_
  · intro hc
    by_cases hp : q_ok 7 x ∧ q_ok 8 y
    · obtain ⟨⟨a, ha, rfl⟩, ⟨c, hc8, rfl⟩⟩ := hp
      rw [q_n_nI (n := a) (by omega), q_n_nI (n := c) (by omega)]
      rw [h1 a c ha hc8, (h2 c hc8).1]
    · rw [q_c3_1 hp, q_c3_1 hp]
  · intro hc
    obtain ⟨⟨⟨a, ha, rfl⟩, ⟨c, hc8, rfl⟩⟩, hz, hf⟩ := q_c3_of hc
    rw [q_n_nI (n := a) (by omega), q_n_nI (n := c) (by omega)]
    rw [q_n_nI (n := a) (by omega), q_n_nI (n := c) (by omega)] at hf
    have e69 : q_up (q_up V (20 + a) c (V (20 + a) c - z)) 2 c (V 2 c + z) 69 (8 * a + c) = V (20 + a) c := by
      repeat rw [q_up_ne _ _ (by omega)]
      exact h1 a c ha hc8
    have e70 : q_up (q_up V (20 + a) c (V (20 + a) c - z)) 2 c (V 2 c + z) 70 c = V 2 c := by
      repeat rw [q_up_ne _ _ (by omega)]
      exact (h2 c hc8).1
    rw [e69, e70]
    refine ⟨q_c3_0 ⟨q_ok_nI ha, q_ok_nI hc8⟩ hz hf, rfl, (by (repeat rw [q_up_ne _ _ (by omega)]); exact (q_up_self _ _ _ _).trans nI_0), n, ns, ⟨?_, ?_, q_R3_fr h3 ⟨(by repeat rw [q_up_off _ _ (by omega)]), (by repeat rw [q_up_off _ _ (by omega)])⟩ (by repeat rw [q_up_ne _ _ (by omega)]) (by repeat rw [q_up_ne _ _ (by omega)]) (by repeat rw [q_up_off _ _ (by omega)]), q_R4_fr h4 (fun pa hpa => ⟨(by repeat rw [q_up_off _ _ (by omega)]), (by repeat rw [q_up_off _ _ (by omega)])⟩) (by repeat rw [q_up_ne _ _ (by omega)]) (by repeat rw [q_up_ne _ _ (by omega)]) (by repeat rw [q_up_off _ _ (by omega)]) (by repeat rw [q_up_off _ _ (by omega)]) (by repeat rw [q_up_off _ _ (by omega)]), q_R5_fr h5 (fun pa hpa => ⟨(by repeat rw [q_up_off _ _ (by omega)]), (by repeat rw [q_up_off _ _ (by omega)])⟩) (by repeat rw [q_up_off _ _ (by omega)]) (by repeat rw [q_up_off _ _ (by omega)]) (by repeat rw [q_up_off _ _ (by omega)]), q_R6_fr h6 (fun t ht => ⟨(by repeat rw [q_up_off _ _ (by omega)]), (by repeat rw [q_up_off _ _ (by omega)])⟩) (by repeat rw [q_up_ne _ _ (by omega)]) (by repeat rw [q_up_ne _ _ (by omega)]) (by repeat rw [q_up_off _ _ (by omega)]) (by repeat rw [q_up_off _ _ (by omega)]) (by repeat rw [q_up_off _ _ (by omega)]) (by repeat rw [q_up_off _ _ (by omega)]) (by repeat rw [q_up_off _ _ (by omega)]), q_R7_fr h7 (by repeat rw [q_up_off _ _ (by omega)]) (by repeat rw [q_up_off _ _ (by omega)]) (by repeat rw [q_up_off _ _ (by omega)]) (by repeat rw [q_up_off _ _ (by omega)]), q_R8_fr h8 (by repeat rw [q_up_off _ _ (by omega)]) (by repeat rw [q_up_off _ _ (by omega)]), q_R9_fr h9 (by repeat rw [q_up_off _ _ (by omega)]) (by repeat rw [q_up_off _ _ (by omega)]) (by repeat rw [q_up_off _ _ (by omega)]) (by repeat rw [q_up_off _ _ (by omega)]), h10⟩⟩
    · intro p e hp he
      by_cases hpe : p = a ∧ e = c
      · obtain ⟨rfl, rfl⟩ := hpe
        repeat first | rw [q_up_self] | rw [q_up_ne _ _ (by omega)]
      · repeat rw [q_up_ne _ _ (by omega)]
        exact h1 p e hp he
    · intro e he
      by_cases hec : e = c
      · subst hec
        refine ⟨?_, ?_⟩
        · repeat first | rw [q_up_self] | rw [q_up_ne _ _ (by omega)]
        · repeat rw [q_up_ne _ _ (by omega)]
          exact (h2 e he).2
      · repeat rw [q_up_ne _ _ (by omega)]
        exact h2 e he
set_option maxRecDepth 100000 in
theorem q_sim_give {V : q_V} {G : q_G} {n ns : Nat} (h : q_Rel V G n ns) (x y : Int32) {k r : Int32} {V' V'' : q_V} {G' G'' : q_G} (hL : (∃ r V1 G1, (fun r V' G' => (q_c1 ((q_cisb V x) ∧ q_ok 7 y)) = 0 ∧ (V 7 (q_n x)) = r ∧ (q_up V 7 (q_n x) y) = V' ∧ G = G') r V1 G1 ∧ (0 : Int32) = k ∧ V1 = V' ∧ q_upL G1 18 0 r.toInt64 = G') ∨ (∃ E, (fun E V' G' => q_xc [xI] (q_c1 ((q_cisb V x) ∧ q_ok 7 y)) E ∧ V = V' ∧ G = G') E V' G' ∧ nI (q_c1 ((q_cisb V x) ∧ q_ok 7 y)) = k)) (hM : q_mres V' (q_c1 (q_isb V' x ∧ q_ok 7 y)) (V' 79 (q_n x)) ((q_up (q_up V' 19 0 (nI 0)) 79 (q_n x) y)) r V'' ∧ G' = G'') : q_stepR k r.toInt64 V'' G'' := by
  obtain ⟨h1, h2, h3, h4, h5, h6, h7, h8, h9, h10⟩ := id h
  have hn := h4.2.2.1
  have hns := h6.2.2.1
  refine q_simG (cM := id) (rM := id) h (by decide) (fun U => (q_c1 (q_isb U x ∧ q_ok 7 y))) (fun U => (U 79 (q_n x))) (fun U => (q_up (q_up U 19 0 (nI 0)) 79 (q_n x) y)) hL hM ?_ ?_
  · intro hc
    rw [propext (q_Rel_isb h7 x)]
  · intro hc
    obtain ⟨⟨b, hb, rfl, hb9⟩, ⟨a, ha, rfl⟩⟩ := q_c1_of hc
    rw [q_n_nI (n := b) (by omega)]
    have e79 : q_up V 7 b (nI a) 79 b = V 7 b := by
      repeat rw [q_up_ne _ _ (by omega)]
      exact (h7 b hb).2.1
    rw [e79]
    have eB : q_isb (q_up V 7 b (nI a)) (nI b) := ⟨b, hb, rfl, by rw [q_up_ne _ _ (by omega), (h7 b hb).1]; exact hb9⟩
    refine ⟨q_c1_0 ⟨eB, q_ok_nI ha⟩, rfl, (by (repeat rw [q_up_ne _ _ (by omega)]); exact (q_up_self _ _ _ _).trans nI_0), n, ns, ⟨q_R1_fr h1 (by repeat rw [q_up_off _ _ (by omega)]) (fun p hp => (by repeat rw [q_up_off _ _ (by omega)])), q_R2_fr h2 (by repeat rw [q_up_off _ _ (by omega)]) (by repeat rw [q_up_off _ _ (by omega)]) (by repeat rw [q_up_off _ _ (by omega)]) (by repeat rw [q_up_off _ _ (by omega)]), q_R3_fr h3 ⟨(by repeat rw [q_up_off _ _ (by omega)]), (by repeat rw [q_up_off _ _ (by omega)])⟩ (by repeat rw [q_up_ne _ _ (by omega)]) (by repeat rw [q_up_ne _ _ (by omega)]) (by repeat rw [q_up_off _ _ (by omega)]), q_R4_fr h4 (fun pa hpa => ⟨(by repeat rw [q_up_off _ _ (by omega)]), (by repeat rw [q_up_off _ _ (by omega)])⟩) (by repeat rw [q_up_ne _ _ (by omega)]) (by repeat rw [q_up_ne _ _ (by omega)]) (by repeat rw [q_up_off _ _ (by omega)]) (by repeat rw [q_up_off _ _ (by omega)]) (by repeat rw [q_up_off _ _ (by omega)]), q_R5_fr h5 (fun pa hpa => ⟨(by repeat rw [q_up_off _ _ (by omega)]), (by repeat rw [q_up_off _ _ (by omega)])⟩) (by repeat rw [q_up_off _ _ (by omega)]) (by repeat rw [q_up_off _ _ (by omega)]) (by repeat rw [q_up_off _ _ (by omega)]), q_R6_fr h6 (fun t ht => ⟨(by repeat rw [q_up_off _ _ (by omega)]), (by repeat rw [q_up_off _ _ (by omega)])⟩) (by repeat rw [q_up_ne _ _ (by omega)]) (by repeat rw [q_up_ne _ _ (by omega)]) (by repeat rw [q_up_off _ _ (by omega)]) (by repeat rw [q_up_off _ _ (by omega)]) (by repeat rw [q_up_off _ _ (by omega)]) (by repeat rw [q_up_off _ _ (by omega)]) (by repeat rw [q_up_off _ _ (by omega)]), ?_, q_R8_fr h8 (by repeat rw [q_up_off _ _ (by omega)]) (by repeat rw [q_up_off _ _ (by omega)]), q_R9_fr h9 (by repeat rw [q_up_off _ _ (by omega)]) (by repeat rw [q_up_off _ _ (by omega)]) (by repeat rw [q_up_off _ _ (by omega)]) (by repeat rw [q_up_off _ _ (by omega)]), h10⟩⟩
    intro e he
    by_cases hec : e = b
    · subst hec
      refine ⟨?_, ?_, ?_, ⟨a, ha, ?_⟩⟩
      · repeat rw [q_up_ne _ _ (by omega)]
        exact (h7 e he).1
      · repeat first | rw [q_up_self] | rw [q_up_ne _ _ (by omega)]
      · repeat rw [q_up_ne _ _ (by omega)]
        exact (h7 e he).2.2.1
      · repeat first | rw [q_up_self] | rw [q_up_ne _ _ (by omega)]
    · repeat rw [q_up_ne _ _ (by omega)]
      exact h7 e he
set_option maxRecDepth 100000 in
theorem q_sim_bead {V : q_V} {G : q_G} {n ns : Nat} (h : q_Rel V G n ns) (x y z : Int32) {k r : Int32} {V' V'' : q_V} {G' G'' : q_G} (hL : (∃ r V1 G1, (fun r V' G' => (q_c1 (q_ok (q_gw V 0) x ∧ q_ok (q_gh V 0) y ∧ q_ok 8 z)) = 0 ∧ (V (48 + 0) (q_n y * (q_gw V 0) + q_n x)) = r ∧ (q_up V (48 + 0) (q_n y * (q_gw V 0) + q_n x) z) = V' ∧ G = G') r V1 G1 ∧ (0 : Int32) = k ∧ V1 = V' ∧ q_upL G1 18 0 r.toInt64 = G') ∨ (∃ E, (fun E V' G' => q_xc [xI] (q_c1 (q_ok (q_gw V 0) x ∧ q_ok (q_gh V 0) y ∧ q_ok 8 z)) E ∧ V = V' ∧ G = G') E V' G' ∧ nI (q_c1 (q_ok (q_gw V 0) x ∧ q_ok (q_gh V 0) y ∧ q_ok 8 z)) = k)) (hM : q_mres V' (q_c1 (q_ok (q_gw V 0) x ∧ q_ok (q_gh V 0) y ∧ q_ok 8 z)) (V' 72 (8 * q_n y + q_n x)) ((q_up (q_up V' 19 0 (nI 0)) 72 (8 * q_n y + q_n x) z)) r V'' ∧ G' = G'') : q_stepR k r.toInt64 V'' G'' := by
  obtain ⟨h1, h2, h3, h4, h5, h6, h7, h8, h9, h10⟩ := id h
  have hn := h4.2.2.1
  have hns := h6.2.2.1
  refine q_simG (cM := id) (rM := id) h (by decide) (fun U => (q_c1 (q_ok (q_gw V 0) x ∧ q_ok (q_gh V 0) y ∧ q_ok 8 z))) (fun U => (U 72 (8 * q_n y + q_n x))) (fun U => (q_up (q_up U 19 0 (nI 0)) 72 (8 * q_n y + q_n x) z)) hL hM ?_ ?_
  · intro hc
    rfl
  · intro hc
    obtain ⟨⟨a, ha, rfl⟩, ⟨b, hb, rfl⟩, hz⟩ := q_c1_of hc
    have hd := h3.1.2.2
    have e48 := q_gwh h3.1
    rw [q_n_nI (n := a) (by omega), q_n_nI (n := b) (by omega)]
    have e72 : q_up V (48 + 0) (b * q_gw V 0 + a) z 72 (8 * b + a) = V (48 + 0) (b * q_gw V 0 + a) := by
      repeat rw [q_up_ne _ _ (by omega)]
      exact h3.2.2.2 b a hb ha
    rw [e72]
    have eg : ∀ j, q_up (q_up (q_up V (48 + 0) (b * q_gw V 0 + a) z) 19 0 (nI 0)) 72 (8 * b + a) z (27 + 0) j = V (27 + 0) j := fun j => by repeat rw [q_up_ne _ _ (by omega)]
    have egw : q_gw (q_up (q_up (q_up V (48 + 0) (b * q_gw V 0 + a) z) 19 0 (nI 0)) 72 (8 * b + a) z) 0 = q_gw V 0 := congrArg q_n (eg 1)
    have egh : q_gh (q_up (q_up (q_up V (48 + 0) (b * q_gw V 0 + a) z) 19 0 (nI 0)) 72 (8 * b + a) z) 0 = q_gh V 0 := congrArg q_n (eg 2)
    refine ⟨q_c1_0 ⟨q_ok_nI ha, q_ok_nI hb, hz⟩, rfl, (by (repeat rw [q_up_ne _ _ (by omega)]); exact (q_up_self _ _ _ _).trans nI_0), n, ns, ⟨q_R1_fr h1 (by repeat rw [q_up_off _ _ (by omega)]) (fun p hp => (by repeat rw [q_up_off _ _ (by omega)])), q_R2_fr h2 (by repeat rw [q_up_off _ _ (by omega)]) (by repeat rw [q_up_off _ _ (by omega)]) (by repeat rw [q_up_off _ _ (by omega)]) (by repeat rw [q_up_off _ _ (by omega)]), ?_, q_R4_fr h4 (fun pa hpa => ⟨(by repeat rw [q_up_off _ _ (by omega)]), (by repeat rw [q_up_off _ _ (by omega)])⟩) (by repeat rw [q_up_ne _ _ (by omega)]) (by repeat rw [q_up_ne _ _ (by omega)]) (by repeat rw [q_up_off _ _ (by omega)]) (by repeat rw [q_up_off _ _ (by omega)]) (by repeat rw [q_up_off _ _ (by omega)]), q_R5_fr h5 (fun pa hpa => ⟨(by repeat rw [q_up_off _ _ (by omega)]), (by repeat rw [q_up_off _ _ (by omega)])⟩) (by repeat rw [q_up_off _ _ (by omega)]) (by repeat rw [q_up_off _ _ (by omega)]) (by repeat rw [q_up_off _ _ (by omega)]), q_R6_fr h6 (fun t ht => ⟨(by repeat rw [q_up_off _ _ (by omega)]), (by repeat rw [q_up_off _ _ (by omega)])⟩) (by repeat rw [q_up_ne _ _ (by omega)]) (by repeat rw [q_up_ne _ _ (by omega)]) (by repeat rw [q_up_off _ _ (by omega)]) (by repeat rw [q_up_off _ _ (by omega)]) (by repeat rw [q_up_off _ _ (by omega)]) (by repeat rw [q_up_off _ _ (by omega)]) (by repeat rw [q_up_off _ _ (by omega)]), q_R7_fr h7 (by repeat rw [q_up_off _ _ (by omega)]) (by repeat rw [q_up_off _ _ (by omega)]) (by repeat rw [q_up_off _ _ (by omega)]) (by repeat rw [q_up_off _ _ (by omega)]), q_R8_fr h8 (by repeat rw [q_up_off _ _ (by omega)]) (by repeat rw [q_up_off _ _ (by omega)]), q_R9_fr h9 (by repeat rw [q_up_off _ _ (by omega)]) (by repeat rw [q_up_off _ _ (by omega)]) (by repeat rw [q_up_off _ _ (by omega)]) (by repeat rw [q_up_off _ _ (by omega)]), h10⟩⟩
    unfold q_R3
    rw [egw, egh, eg 1, eg 2]
    refine ⟨⟨by rw [eg]; exact h3.1.1, by rw [eg]; exact h3.1.2.1, hd⟩, by repeat rw [q_up_ne _ _ (by omega)]; exact h3.2.1, by repeat rw [q_up_ne _ _ (by omega)]; exact h3.2.2.1, fun r c hr hc2 => ?_⟩
    by_cases hrc : r = b ∧ c = a
    · obtain ⟨rfl, rfl⟩ := hrc
      repeat first | rw [q_up_self] | rw [q_up_ne _ _ (by omega)]
    · have h72 : 8 * r + c ≠ 8 * b + a := by omega
      have h48 : r * q_gw V 0 + c ≠ b * q_gw V 0 + a := fun e => hrc (q_rc_inj hc2 ha e)
      repeat rw [q_up_ne _ _ (by omega)]
      exact h3.2.2.2 r c hr hc2
