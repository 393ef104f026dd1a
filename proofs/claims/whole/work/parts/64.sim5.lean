theorem q_corg_one {V : q_V} {n o o' : Nat} (h : q_corg V n o) (h' : q_corg V n o') : o = o' := by
  rcases Nat.lt_trichotomy o o' with c | c | c
  · exact absurd (h.2.1 (by have := h'.1; omega)) (h'.2.2 o c)
  · exact c
  · exact absurd (h'.2.1 (by have := h.1; omega)) (h.2.2 o' c)
theorem q_crd_boff {V U : q_V} (h : q_boff V U) : q_crd U = q_crd V := by
  funext a
  unfold q_crd
  rw [h 13 a (by decide) (by decide) (by decide) (by omega), h (20 + a) _ (by omega) (by omega) (by omega) (by omega)]
theorem q_Rel_best2 {V U : q_V} {n ns : Nat} {G : q_G} (h : q_Rel U G n ns) (hb : q_boff V U) : q_best (q_mrd U) (q_mgt U) = q_best (q_crd V) (q_cgt V) := by
  rw [q_Rel_best h.1 h.2.2.2.2.2.2.2.2.1, q_crd_boff hb, q_cgt_boff hb]
theorem q_sim_patterns {V : q_V} {G : q_G} {n ns : Nat} (h : q_Rel V G n ns) {r1 r2 : Int32} {V' V'' : q_V} {G' G'' : q_G} (hL : V 0 6 = r1 ∧ V = V' ∧ G = G') (hM : V' 19 7 = r2 ∧ q_up V' 19 0 (nI 0) = V'' ∧ G' = G'') : r1 = r2 ∧ ∃ n ns, q_Rel V'' G'' n ns := by
  obtain ⟨rfl, rfl, rfl⟩ := hL
  obtain ⟨rfl, rfl, rfl⟩ := hM
  exact ⟨h.2.2.2.1.1.trans h.2.2.2.1.2.1.symm, n, ns, q_Rel_sm h (q_sm_19 V _) rfl rfl⟩
theorem q_sim_chain {V : q_V} {G : q_G} {n ns : Nat} (h : q_Rel V G n ns) {r1 r2 : Int32} {V' V'' : q_V} {G' G'' : q_G} (hL : nI (q_best (q_crd V) (q_cgt V)).length = r1 ∧ q_boff V V' ∧ G = G') (hM : nI (q_best (q_mrd V') (q_mgt V')).length = r2 ∧ q_off (q_up V' 19 0 (nI 0)) V'' ∧ G' = G'') : r1 = r2 ∧ ∃ n ns, q_Rel V'' G'' n ns := by
  obtain ⟨rfl, hb, rfl⟩ := hL
  obtain ⟨rfl, ho, rfl⟩ := hM
  have hr := q_Rel_sm h (q_sm_boff hb) rfl rfl
  refine ⟨by rw [q_Rel_best2 hr hb], n, ns, q_Rel_sm hr (q_sm_tr (q_sm_19 V' (nI 0)) (q_sm_off ho)) rfl rfl⟩
theorem q_sim_chainAt {V : q_V} {G : q_G} {n ns : Nat} (h : q_Rel V G n ns) (x : Int32) {k r : Int32} {V' V'' : q_V} {G' G'' : q_G} (hL : (∃ r V1 G1, (fun r V' G' => (q_c1 (q_ok (q_best (q_crd V) (q_cgt V)).length x)) = 0 ∧ nI ((q_best (q_crd V) (q_cgt V)).getD (q_n x) 0) = r ∧ q_boff V V' ∧ G = G') r V1 G1 ∧ (0 : Int32) = k ∧ V1 = V' ∧ q_upL G1 18 0 r.toInt64 = G') ∨ (∃ E, (fun E V' G' => q_xc [xI] (q_c1 (q_ok (q_best (q_crd V) (q_cgt V)).length x)) E ∧ q_boff V V' ∧ G = G') E V' G' ∧ nI (q_c1 (q_ok (q_best (q_crd V) (q_cgt V)).length x)) = k)) (hM : ((q_c1 (q_ok (q_best (q_mrd V') (q_mgt V')).length x) = 0 ∧ nI ((q_best (q_mrd V') (q_mgt V')).getD (q_n x) 0) = r) ∨ q_c1 (q_ok (q_best (q_mrd V') (q_mgt V')).length x) ≠ 0) ∧ (∃ U, q_off V' U ∧ q_up U 19 0 (nI (q_c1 (q_ok (q_best (q_mrd V') (q_mgt V')).length x))) = V'') ∧ G' = G'') : q_stepR k r.toInt64 V'' G'' := by
  rcases hL with ⟨r1, V1, G1, ⟨hc, e1, hb, rfl⟩, rfl, rfl, rfl⟩ | ⟨E, ⟨hx, hb, rfl⟩, rfl⟩
  · have hr := q_Rel_sm h (q_sm_boff hb) rfl rfl
    rw [q_Rel_best2 hr hb] at hM
    obtain ⟨hm, ⟨U, ho, rfl⟩, rfl⟩ := hM
    rcases hm with ⟨-, e2⟩ | hn
    · rw [hc]
      refine ⟨(q_up_self _ _ _ _).trans nI_0, fun _ => ?_, n, ns, q_Rel_18 (q_Rel_sm hr (q_sm_tr (q_sm_off ho) (q_sm_19 U (nI 0))) rfl rfl) _⟩
      rw [← e2, ← e1]
      exact q_upL_self _ _ _ _
    · exact absurd hc hn
  · have hr := q_Rel_sm h (q_sm_boff hb) rfl rfl
    rw [q_Rel_best2 hr hb] at hM
    obtain ⟨-, ⟨U, ho, rfl⟩, rfl⟩ := hM
    exact ⟨q_up_self _ _ _ _, fun z => absurd z (q_xc_ne hx (by decide)), n, ns, q_Rel_sm hr (q_sm_tr (q_sm_off ho) (q_sm_19 U _)) rfl rfl⟩
theorem q_sim_origin {V : q_V} {G : q_G} {n ns : Nat} (h : q_Rel V G n ns) (x : Int32) {k r : Int32} {V' V'' : q_V} {G' G'' : q_G} (hL : (∃ r V1 G1, (fun r V' G' => (q_c1 (q_ok n x)) = 0 ∧ (∃ o, q_corg V (q_n x) o ∧ nI o = r) ∧ V = V' ∧ G = G') r V1 G1 ∧ (0 : Int32) = k ∧ V1 = V' ∧ q_upL G1 18 0 r.toInt64 = G') ∨ (∃ E, (fun E V' G' => q_xc [xI] (q_c1 (q_ok n x)) E ∧ V = V' ∧ G = G') E V' G' ∧ nI (q_c1 (q_ok n x)) = k)) (hM : q_mres V' (q_c1 (q_ok n x)) (V' 77 (q_n x)) (q_up V' 19 0 (nI 0)) r V'' ∧ G' = G'') : q_stepR k r.toInt64 V'' G'' := by
  obtain ⟨h1, h2, h3, h4, h5, h6, h7, h8, h9, h10⟩ := id h
  have hn := h4.2.2.1
  have hL2 : (∃ r V1 G1, (fun r V' G' => q_c1 (q_ok n x) = 0 ∧ V 77 (q_n x) = r ∧ V = V' ∧ G = G') r V1 G1 ∧ (0 : Int32) = k ∧ V1 = V' ∧ q_upL G1 18 0 r.toInt64 = G') ∨ (∃ E, (fun E V' G' => q_xc [xI] (q_c1 (q_ok n x)) E ∧ V = V' ∧ G = G') E V' G' ∧ nI (q_c1 (q_ok n x)) = k) := by
    refine hL.imp ?_ id
    intro ⟨r1, V1, G1, ⟨hc, ⟨o, ho, e⟩, e2, e3⟩, z⟩
    refine ⟨r1, V1, G1, ⟨hc, ?_, e2, e3⟩, z⟩
    obtain ⟨pa, hpa, rfl⟩ := q_c1_of hc
    rw [q_n_nI (n := pa) (by omega)] at ho ⊢
    obtain ⟨-, -, o2, ho2, e9⟩ := h5 pa hpa
    rw [e9, q_corg_one ho2 ho, e]
  exact q_simG (cM := id) (rM := id) h (by decide) (fun U => q_c1 (q_ok n x)) (fun U => U 77 (q_n x)) (fun U => q_up U 19 0 (nI 0)) hL2 hM (fun _ => rfl) (fun hc => ⟨hc, rfl, rfl, n, ns, q_Rel_sm h (q_sm_19 V _) rfl rfl⟩)
theorem q_sim_wish {V : q_V} {G : q_G} {n ns : Nat} (h : q_Rel V G n ns) (x y z : Int32) {k r : Int32} {V' V'' : q_V} {G' G'' : q_G} (hL : (∃ r V1 G1, (fun r V' G' => (q_c2 (q_ok 7 x ∧ q_ok 8 y ∧ q_ok 8 z) (¬ y = z)) = 0 ∧ q_is (¬ V 13 (q_n x) = -1) r ∧ q_up (q_up V 13 (q_n x) y) 14 (q_n x) z = V' ∧ G = G') r V1 G1 ∧ (0 : Int32) = k ∧ V1 = V' ∧ q_upL G1 18 0 (if r = 0 then (0 : Int64) else 1) = G') ∨ (∃ E, (fun E V' G' => q_xc [xI, xA] (q_c2 (q_ok 7 x ∧ q_ok 8 y ∧ q_ok 8 z) (¬ y = z)) E ∧ V = V' ∧ G = G') E V' G' ∧ nI (q_c2 (q_ok 7 x ∧ q_ok 8 y ∧ q_ok 8 z) (¬ y = z)) = k)) (hM : q_mres V' (q_c2 (q_ok 7 x ∧ q_ok 8 y ∧ q_ok 8 z) (¬ y = z)) (q_w01 (¬ V' 81 (q_n x) = -1)) (q_up (q_up (q_up V' 19 0 (nI 0)) 81 (q_n x) y) 82 (q_n x) z) r V'' ∧ G' = G'') : q_stepR k (if r = 0 then (0 : Int64) else 1) V'' G'' := by
  obtain ⟨h1, h2, h3, h4, h5, h6, h7, h8, h9, h10⟩ := id h
  have hn := h4.2.2.1
  have hns := h6.2.2.1
  obtain ⟨hm, rfl⟩ := hM
  rcases hL with ⟨r1, V1, G1, ⟨hc, e1, rfl, rfl⟩, rfl, rfl, rfl⟩ | ⟨E, ⟨hx, rfl, rfl⟩, rfl⟩
  · rcases hm with ⟨-, rfl, rfl⟩ | ⟨hn9, -⟩
    · obtain ⟨⟨⟨a, ha, rfl⟩, ⟨c, hc8, rfl⟩, ⟨d, hd8, rfl⟩⟩, hne⟩ := q_c2_of hc
      rw [q_n_nI (n := a) (by omega)] at e1 ⊢
      refine ⟨(by (repeat rw [q_up_ne _ _ (by omega)]); exact (q_up_self _ _ _ _).trans nI_0), fun _ => ?_, n, ns, ?_⟩
      · refine (q_upL_self _ _ _ _).trans ?_
        rw [show (q_up (q_up V 13 a (nI c)) 14 a (nI d)) 81 a = V 13 a from by (repeat rw [q_up_ne _ _ (by omega)]); exact (h9 a ha).1]
        rcases e1 with ⟨p1, rfl⟩ | ⟨p1, rfl⟩
        · rw [q_w01_y p1] <;> rfl
        · rw [q_w01_n p1] <;> rfl
      · refine q_Rel_18 (V := _) ?_ _
        refine ⟨q_R1_fr h1 (by repeat rw [q_up_off _ _ (by omega)]) (fun p hp => (by repeat rw [q_up_off _ _ (by omega)])), q_R2_fr h2 (by repeat rw [q_up_off _ _ (by omega)]) (by repeat rw [q_up_off _ _ (by omega)]) (by repeat rw [q_up_off _ _ (by omega)]) (by repeat rw [q_up_off _ _ (by omega)]), q_R3_fr h3 ⟨(by repeat rw [q_up_off _ _ (by omega)]), (by repeat rw [q_up_off _ _ (by omega)])⟩ (by repeat rw [q_up_ne _ _ (by omega)]) (by repeat rw [q_up_ne _ _ (by omega)]) (by repeat rw [q_up_off _ _ (by omega)]), q_R4_fr h4 (fun pa hpa => ⟨(by repeat rw [q_up_off _ _ (by omega)]), (by repeat rw [q_up_off _ _ (by omega)])⟩) (by repeat rw [q_up_ne _ _ (by omega)]) (by repeat rw [q_up_ne _ _ (by omega)]) (by repeat rw [q_up_off _ _ (by omega)]) (by repeat rw [q_up_off _ _ (by omega)]) (by repeat rw [q_up_off _ _ (by omega)]), q_R5_fr h5 (fun pa hpa => ⟨(by repeat rw [q_up_off _ _ (by omega)]), (by repeat rw [q_up_off _ _ (by omega)])⟩) (by repeat rw [q_up_off _ _ (by omega)]) (by repeat rw [q_up_off _ _ (by omega)]) (by repeat rw [q_up_off _ _ (by omega)]), q_R6_fr h6 (fun t ht => ⟨(by repeat rw [q_up_off _ _ (by omega)]), (by repeat rw [q_up_off _ _ (by omega)])⟩) (by repeat rw [q_up_ne _ _ (by omega)]) (by repeat rw [q_up_ne _ _ (by omega)]) (by repeat rw [q_up_off _ _ (by omega)]) (by repeat rw [q_up_off _ _ (by omega)]) (by repeat rw [q_up_off _ _ (by omega)]) (by repeat rw [q_up_off _ _ (by omega)]) (by repeat rw [q_up_off _ _ (by omega)]), q_R7_fr h7 (by repeat rw [q_up_off _ _ (by omega)]) (by repeat rw [q_up_off _ _ (by omega)]) (by repeat rw [q_up_off _ _ (by omega)]) (by repeat rw [q_up_off _ _ (by omega)]), q_R8_fr h8 (by repeat rw [q_up_off _ _ (by omega)]) (by repeat rw [q_up_off _ _ (by omega)]), ?_, h10⟩
        intro p hp
        by_cases e : p = a
        · subst e
          refine ⟨?_, Or.inr ⟨?_, ⟨c, hc8, ?_⟩, ⟨d, hd8, ?_⟩⟩⟩ <;> (repeat first | rw [q_up_self] | rw [q_up_ne _ _ (by omega)])
        · repeat rw [q_up_ne _ _ (by omega)]
          exact h9 p hp
    · exact absurd hc hn9
  · rcases hm with ⟨h0, -⟩ | ⟨hn9, rfl⟩
    · have := hx.1; omega
    · exact ⟨q_up_self _ _ _ _, fun z => absurd z (q_xc_ne hx (by decide)), n, ns, q_Rel_sm h (q_sm_19 V _) rfl rfl⟩
theorem q_sim_unwish {V : q_V} {G : q_G} {n ns : Nat} (h : q_Rel V G n ns) (x : Int32) {k r : Int32} {V' V'' : q_V} {G' G'' : q_G} (hL : (∃ r V1 G1, (fun r V' G' => (q_c1 (q_ok 7 x)) = 0 ∧ q_is (¬ V 13 (q_n x) = -1) r ∧ q_up (q_up V 13 (q_n x) (-1)) 14 (q_n x) (-1) = V' ∧ G = G') r V1 G1 ∧ (0 : Int32) = k ∧ V1 = V' ∧ q_upL G1 18 0 (if r = 0 then (0 : Int64) else 1) = G') ∨ (∃ E, (fun E V' G' => q_xc [xI] (q_c1 (q_ok 7 x)) E ∧ V = V' ∧ G = G') E V' G' ∧ nI (q_c1 (q_ok 7 x)) = k)) (hM : q_mres V' (q_c1 (q_ok 7 x)) (q_w01 (¬ V' 81 (q_n x) = -1)) (q_up (q_up V' 19 0 (nI 0)) 81 (q_n x) (-1)) r V'' ∧ G' = G'') : q_stepR k (if r = 0 then (0 : Int64) else 1) V'' G'' := by
  obtain ⟨h1, h2, h3, h4, h5, h6, h7, h8, h9, h10⟩ := id h
  have hn := h4.2.2.1
  have hns := h6.2.2.1
  obtain ⟨hm, rfl⟩ := hM
  rcases hL with ⟨r1, V1, G1, ⟨hc, e1, rfl, rfl⟩, rfl, rfl, rfl⟩ | ⟨E, ⟨hx, rfl, rfl⟩, rfl⟩
  · rcases hm with ⟨-, rfl, rfl⟩ | ⟨hn9, -⟩
    · obtain ⟨a, ha, rfl⟩ := q_c1_of hc
      rw [q_n_nI (n := a) (by omega)] at e1 ⊢
      refine ⟨(by (repeat rw [q_up_ne _ _ (by omega)]); exact (q_up_self _ _ _ _).trans nI_0), fun _ => ?_, n, ns, ?_⟩
      · refine (q_upL_self _ _ _ _).trans ?_
        rw [show (q_up (q_up V 13 a (-1)) 14 a (-1)) 81 a = V 13 a from by (repeat rw [q_up_ne _ _ (by omega)]); exact (h9 a ha).1]
        rcases e1 with ⟨p1, rfl⟩ | ⟨p1, rfl⟩
        · rw [q_w01_y p1] <;> rfl
        · rw [q_w01_n p1] <;> rfl
      · refine q_Rel_18 (V := _) ?_ _
        refine ⟨q_R1_fr h1 (by repeat rw [q_up_off _ _ (by omega)]) (fun p hp => (by repeat rw [q_up_off _ _ (by omega)])), q_R2_fr h2 (by repeat rw [q_up_off _ _ (by omega)]) (by repeat rw [q_up_off _ _ (by omega)]) (by repeat rw [q_up_off _ _ (by omega)]) (by repeat rw [q_up_off _ _ (by omega)]), q_R3_fr h3 ⟨(by repeat rw [q_up_off _ _ (by omega)]), (by repeat rw [q_up_off _ _ (by omega)])⟩ (by repeat rw [q_up_ne _ _ (by omega)]) (by repeat rw [q_up_ne _ _ (by omega)]) (by repeat rw [q_up_off _ _ (by omega)]), q_R4_fr h4 (fun pa hpa => ⟨(by repeat rw [q_up_off _ _ (by omega)]), (by repeat rw [q_up_off _ _ (by omega)])⟩) (by repeat rw [q_up_ne _ _ (by omega)]) (by repeat rw [q_up_ne _ _ (by omega)]) (by repeat rw [q_up_off _ _ (by omega)]) (by repeat rw [q_up_off _ _ (by omega)]) (by repeat rw [q_up_off _ _ (by omega)]), q_R5_fr h5 (fun pa hpa => ⟨(by repeat rw [q_up_off _ _ (by omega)]), (by repeat rw [q_up_off _ _ (by omega)])⟩) (by repeat rw [q_up_off _ _ (by omega)]) (by repeat rw [q_up_off _ _ (by omega)]) (by repeat rw [q_up_off _ _ (by omega)]), q_R6_fr h6 (fun t ht => ⟨(by repeat rw [q_up_off _ _ (by omega)]), (by repeat rw [q_up_off _ _ (by omega)])⟩) (by repeat rw [q_up_ne _ _ (by omega)]) (by repeat rw [q_up_ne _ _ (by omega)]) (by repeat rw [q_up_off _ _ (by omega)]) (by repeat rw [q_up_off _ _ (by omega)]) (by repeat rw [q_up_off _ _ (by omega)]) (by repeat rw [q_up_off _ _ (by omega)]) (by repeat rw [q_up_off _ _ (by omega)]), q_R7_fr h7 (by repeat rw [q_up_off _ _ (by omega)]) (by repeat rw [q_up_off _ _ (by omega)]) (by repeat rw [q_up_off _ _ (by omega)]) (by repeat rw [q_up_off _ _ (by omega)]), q_R8_fr h8 (by repeat rw [q_up_off _ _ (by omega)]) (by repeat rw [q_up_off _ _ (by omega)]), ?_, h10⟩
        intro p hp
        by_cases e : p = a
        · subst e
          refine ⟨?_, Or.inl ?_⟩ <;> (repeat first | rw [q_up_self] | rw [q_up_ne _ _ (by omega)])
        · repeat rw [q_up_ne _ _ (by omega)]
          exact h9 p hp
    · exact absurd hc hn9
  · rcases hm with ⟨h0, -⟩ | ⟨hn9, rfl⟩
    · have := hx.1; omega
    · exact ⟨q_up_self _ _ _ _, fun z => absurd z (q_xc_ne hx (by decide)), n, ns, q_Rel_sm h (q_sm_19 V _) rfl rfl⟩
theorem q_sim_hear {V : q_V} {G : q_G} {n ns : Nat} (h : q_Rel V G n ns) (x y : Int32) {k : Int32} {r : Int64} {V' V'' : q_V} {G' G'' : q_G} (hL : (∃ r V1 G1, (fun r V' G' => (q_c1 ((q_cisb V x) ∧ q_ok 7 y)) = 0 ∧ (G 12 (q_n y) + (q_cstory V (q_n (V 6 (q_n x))) ns).toInt64) = r ∧ V = V' ∧ q_upL G 12 (q_n y) (G 12 (q_n y) + (q_cstory V (q_n (V 6 (q_n x))) ns).toInt64) = G') r V1 G1 ∧ (0 : Int32) = k ∧ V1 = V' ∧ q_upL G1 18 0 r = G') ∨ (∃ E, (fun E V' G' => q_xc [xI] (q_c1 ((q_cisb V x) ∧ q_ok 7 y)) E ∧ V = V' ∧ G = G') E V' G' ∧ nI (q_c1 ((q_cisb V x) ∧ q_ok 7 y)) = k)) (hM : (q_c1 ((q_isb V' x) ∧ q_ok 7 y) = 0 ∧ (G' 89 (q_n y) + (q_mstory V' (q_n (V' 78 (q_n x))) ns).toInt64) = r ∧ (q_up V' 19 0 (nI 0)) = V'' ∧ q_upL G' 89 (q_n y) (G' 89 (q_n y) + (q_mstory V' (q_n (V' 78 (q_n x))) ns).toInt64) = G'') ∨ (q_c1 ((q_isb V' x) ∧ q_ok 7 y) ≠ 0 ∧ q_up V' 19 0 (nI (q_c1 ((q_isb V' x) ∧ q_ok 7 y))) = V'' ∧ G' = G'')) : q_stepR k r V'' G'' := by
  obtain ⟨h1, h2, h3, h4, h5, h6, h7, h8, h9, h10⟩ := id h
  have hn := h4.2.2.1
  have hns := h6.2.2.1
  have eB : q_isb V x = q_cisb V x := propext (q_Rel_isb h7 x)
  rcases hL with ⟨r1, V1, G1, ⟨hc, e1, rfl, rfl⟩, rfl, rfl, rfl⟩ | ⟨E, ⟨hx, rfl, rfl⟩, rfl⟩
  · rcases hM with ⟨-, rfl, rfl, rfl⟩ | ⟨hn9, -⟩
    · obtain ⟨⟨b, hb, rfl, hb9⟩, ⟨a, ha, rfl⟩⟩ := q_c1_of hc
      obtain ⟨pa, hpa, hpe⟩ := (h7 b hb).2.2.1.resolve_left hb9
      rw [q_n_nI (n := a) (by omega), q_n_nI (n := b) (by omega), (h7 b hb).1, hpe, q_n_nI (n := pa) (by omega)]
      rw [q_n_nI (n := a) (by omega), q_n_nI (n := b) (by omega), hpe, q_n_nI (n := pa) (by omega)] at e1
      have es := q_Rel_story h4 h6 hpa ns (Nat.le_refl _)
      rw [es]
      subst e1
      try rw [hpe, q_n_nI (n := pa) (by omega)]
      have e89 : ∀ (o1 o2 : Int64), q_upL (q_upL G 12 a o1) 18 0 o2 89 a = G 12 a := fun o1 o2 => h10 a ha
      rw [e89]
      refine ⟨(by (repeat rw [q_up_ne _ _ (by omega)]); exact (q_up_self _ _ _ _).trans nI_0), fun _ => rfl, n, ns, ?_⟩
      have hr := q_Rel_sm h (q_sm_19 V (nI 0)) rfl rfl
      refine ⟨hr.1, hr.2.1, hr.2.2.1, hr.2.2.2.1, hr.2.2.2.2.1, hr.2.2.2.2.2.1, hr.2.2.2.2.2.2.1, hr.2.2.2.2.2.2.2.1, hr.2.2.2.2.2.2.2.2.1, fun p hp => ?_⟩
      by_cases e : p = a
      · subst e
        exact (q_upL_self _ _ _ _).trans (q_upL_self G 12 p _).symm
      · have g1 : ∀ (K : q_G) (kk : Nat) (o : Int64), q_upL K kk a o kk p = K kk p := fun K kk o => if_neg (fun z => e z.2)
        exact (g1 _ 89 _).trans ((h10 p hp).trans (g1 G 12 _).symm)
    · rw [eB] at hn9
      exact absurd hc hn9
  · rw [eB] at hM
    rcases hM with ⟨h0, -⟩ | ⟨hn9, rfl, rfl⟩
    · have := hx.1; omega
    · exact ⟨q_up_self _ _ _ _, fun z => absurd z (q_xc_ne hx (by decide)), n, ns, q_Rel_sm h (q_sm_19 V _) rfl rfl⟩
