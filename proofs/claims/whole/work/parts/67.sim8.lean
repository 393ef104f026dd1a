theorem q_cpy_off2 (V : q_V) {k1 k2 i : Nat} (n : Nat) (h : i ≠ k2) : q_cpy V k1 k2 n i = V i := funext fun b => if_neg (fun z => h z.1)
theorem q_scp_off2 (V : q_V) {t w m i : Nat} (h : i ≠ 87) : q_scp V t w m i = V i := funext fun b => if_neg (fun z => h z.1)
theorem q_scp_ne (V : q_V) {t w m i b : Nat} (h : ¬ (i = 87 ∧ 9 * t ≤ b ∧ b < 9 * t + m)) : q_scp V t w m i b = V i b := if_neg h
theorem q_cpyo_off2 (V : q_V) {k1 k2 o n i : Nat} (h : i ≠ k2) : q_cpyo V k1 k2 o n i = V i := funext fun b => if_neg (fun z => h z.1)
theorem q_cpyo_ne (V : q_V) {k1 k2 o n i b : Nat} (h : ¬ (i = k2 ∧ o ≤ b ∧ b < o + n)) : q_cpyo V k1 k2 o n i b = V i b := if_neg h
theorem q_dm {r c w : Nat} (hc : c < w) : (r * w + c) / w = r ∧ (r * w + c) % w = c := by
  have hw : 0 < w := by omega
  exact ⟨by rw [Nat.add_comm, Nat.add_mul_div_right _ _ hw, Nat.div_eq_of_lt hc, Nat.zero_add], by rw [Nat.add_comm, Nat.add_mul_mod_self_right, Nat.mod_eq_of_lt hc]⟩
set_option maxRecDepth 100000 in
theorem q_sim_sign {V : q_V} {G : q_G} {n ns : Nat} (h : q_Rel V G n ns) (x : Int32) {k r : Int32} {V' V'' : q_V} {G' G'' : q_G} (hL : (∃ r V1 G1, (fun r V' G' => (q_c2 (¬ x < nI 1 ∧ ¬ nI 100 < x) ((q_gw V 0) ≤ 3 ∧ (q_gh V 0) ≤ 3 ∧ ns ≠ 8)) = 0 ∧ (nI ns) = r ∧ (q_up (q_up (q_cpy (q_up (q_up V (27 + (13 + ns)) 1 (V (27 + 0) 1)) (27 + (13 + ns)) 2 (V (27 + 0) 2)) (48 + 0) (48 + (13 + ns)) 48) 11 ns x) 0 13 (nI (ns + 1))) = V' ∧ G = G') r V1 G1 ∧ (0 : Int32) = k ∧ V1 = V' ∧ q_upL G1 18 0 r.toInt64 = G') ∨ (∃ E, (fun E V' G' => q_xc [xA, xS] (q_c2 (¬ x < nI 1 ∧ ¬ nI 100 < x) ((q_gw V 0) ≤ 3 ∧ (q_gh V 0) ≤ 3 ∧ ns ≠ 8)) E ∧ V = V' ∧ G = G') E V' G' ∧ nI (q_c2 (¬ x < nI 1 ∧ ¬ nI 100 < x) ((q_gw V 0) ≤ 3 ∧ (q_gh V 0) ≤ 3 ∧ ns ≠ 8)) = k)) (hM : q_mres V' (q_c2 (¬ x < nI 1 ∧ ¬ nI 100 < x) ((q_gw V 0) ≤ 3 ∧ (q_gh V 0) ≤ 3 ∧ ns ≠ 8)) (nI ns) ((q_up (q_scp (q_up (q_up (q_up (q_up V' 19 0 (nI 0)) 85 ns (nI (q_gw V 0))) 86 ns (nI (q_gh V 0))) 88 ns x) ns (q_gw V 0) ((q_gw V 0) * (q_gh V 0))) 19 20 (nI (ns + 1)))) r V'' ∧ G' = G'') : q_stepR k r.toInt64 V'' G'' := by
  obtain ⟨h1, h2, h3, h4, h5, h6, h7, h8, h9, h10⟩ := id h
  have hn := h4.2.2.1
  have hns := h6.2.2.1
  refine q_simG (cM := id) (rM := id) h (by decide) (fun U => (q_c2 (¬ x < nI 1 ∧ ¬ nI 100 < x) ((q_gw V 0) ≤ 3 ∧ (q_gh V 0) ≤ 3 ∧ ns ≠ 8))) (fun U => (nI ns)) (fun U => (q_up (q_scp (q_up (q_up (q_up (q_up U 19 0 (nI 0)) 85 ns (nI (q_gw V 0))) 86 ns (nI (q_gh V 0))) 88 ns x) ns (q_gw V 0) ((q_gw V 0) * (q_gh V 0))) 19 20 (nI (ns + 1)))) hL hM ?_ ?_
  · intro hc
    rfl
  · intro hc
    obtain ⟨hx9, hw3, hh3, hns8⟩ := q_c2_of hc
    have hd := h3.1.2.2
    refine ⟨hc, rfl, (by (repeat first | rw [q_up_ne _ _ (by omega)] | rw [q_fill_ne _ _ _ (by omega)] | rw [q_addr_off _ _ _ (by omega)] | rw [q_addh_off _ _ _ (by omega)] | rw [q_subr_off _ _ _ (by omega)] | rw [q_subh_off _ _ _ (by omega)] | rw [q_cpy_off2 _ _ (by omega)] | rw [q_scp_off2 _ (by omega)] | rw [q_scp_ne _ (by omega)] | rw [q_cpyo_off2 _ (by omega)] | rw [q_cpyo_ne _ (by omega)]); exact (q_up_self _ _ _ _).trans nI_0), n, ns + 1, ⟨q_R1_fr h1 (by repeat first | rw [q_up_off _ _ (by omega)] | rw [q_fill_off _ _ _ (by omega)] | rw [q_addr_off _ _ _ (by omega)] | rw [q_addh_off _ _ _ (by omega)] | rw [q_subr_off _ _ _ (by omega)] | rw [q_subh_off _ _ _ (by omega)] | rw [q_cpy_off2 _ _ (by omega)] | rw [q_scp_off2 _ (by omega)] | rw [q_cpyo_off2 _ (by omega)]) (fun p hp => (by repeat first | rw [q_up_off _ _ (by omega)] | rw [q_fill_off _ _ _ (by omega)] | rw [q_addr_off _ _ _ (by omega)] | rw [q_addh_off _ _ _ (by omega)] | rw [q_subr_off _ _ _ (by omega)] | rw [q_subh_off _ _ _ (by omega)] | rw [q_cpy_off2 _ _ (by omega)] | rw [q_scp_off2 _ (by omega)] | rw [q_cpyo_off2 _ (by omega)])), q_R2_fr h2 (by repeat first | rw [q_up_off _ _ (by omega)] | rw [q_fill_off _ _ _ (by omega)] | rw [q_addr_off _ _ _ (by omega)] | rw [q_addh_off _ _ _ (by omega)] | rw [q_subr_off _ _ _ (by omega)] | rw [q_subh_off _ _ _ (by omega)] | rw [q_cpy_off2 _ _ (by omega)] | rw [q_scp_off2 _ (by omega)] | rw [q_cpyo_off2 _ (by omega)]) (by repeat first | rw [q_up_off _ _ (by omega)] | rw [q_fill_off _ _ _ (by omega)] | rw [q_addr_off _ _ _ (by omega)] | rw [q_addh_off _ _ _ (by omega)] | rw [q_subr_off _ _ _ (by omega)] | rw [q_subh_off _ _ _ (by omega)] | rw [q_cpy_off2 _ _ (by omega)] | rw [q_scp_off2 _ (by omega)] | rw [q_cpyo_off2 _ (by omega)]) (by repeat first | rw [q_up_off _ _ (by omega)] | rw [q_fill_off _ _ _ (by omega)] | rw [q_addr_off _ _ _ (by omega)] | rw [q_addh_off _ _ _ (by omega)] | rw [q_subr_off _ _ _ (by omega)] | rw [q_subh_off _ _ _ (by omega)] | rw [q_cpy_off2 _ _ (by omega)] | rw [q_scp_off2 _ (by omega)] | rw [q_cpyo_off2 _ (by omega)]) (by repeat first | rw [q_up_off _ _ (by omega)] | rw [q_fill_off _ _ _ (by omega)] | rw [q_addr_off _ _ _ (by omega)] | rw [q_addh_off _ _ _ (by omega)] | rw [q_subr_off _ _ _ (by omega)] | rw [q_subh_off _ _ _ (by omega)] | rw [q_cpy_off2 _ _ (by omega)] | rw [q_scp_off2 _ (by omega)] | rw [q_cpyo_off2 _ (by omega)]), q_R3_fr h3 ⟨(by repeat first | rw [q_up_off _ _ (by omega)] | rw [q_fill_off _ _ _ (by omega)] | rw [q_addr_off _ _ _ (by omega)] | rw [q_addh_off _ _ _ (by omega)] | rw [q_subr_off _ _ _ (by omega)] | rw [q_subh_off _ _ _ (by omega)] | rw [q_cpy_off2 _ _ (by omega)] | rw [q_scp_off2 _ (by omega)] | rw [q_cpyo_off2 _ (by omega)]), (by repeat first | rw [q_up_off _ _ (by omega)] | rw [q_fill_off _ _ _ (by omega)] | rw [q_addr_off _ _ _ (by omega)] | rw [q_addh_off _ _ _ (by omega)] | rw [q_subr_off _ _ _ (by omega)] | rw [q_subh_off _ _ _ (by omega)] | rw [q_cpy_off2 _ _ (by omega)] | rw [q_scp_off2 _ (by omega)] | rw [q_cpyo_off2 _ (by omega)])⟩ (by repeat first | rw [q_up_ne _ _ (by omega)] | rw [q_fill_ne _ _ _ (by omega)] | rw [q_addr_off _ _ _ (by omega)] | rw [q_addh_off _ _ _ (by omega)] | rw [q_subr_off _ _ _ (by omega)] | rw [q_subh_off _ _ _ (by omega)] | rw [q_cpy_off2 _ _ (by omega)] | rw [q_scp_off2 _ (by omega)] | rw [q_scp_ne _ (by omega)] | rw [q_cpyo_off2 _ (by omega)] | rw [q_cpyo_ne _ (by omega)]) (by repeat first | rw [q_up_ne _ _ (by omega)] | rw [q_fill_ne _ _ _ (by omega)] | rw [q_addr_off _ _ _ (by omega)] | rw [q_addh_off _ _ _ (by omega)] | rw [q_subr_off _ _ _ (by omega)] | rw [q_subh_off _ _ _ (by omega)] | rw [q_cpy_off2 _ _ (by omega)] | rw [q_scp_off2 _ (by omega)] | rw [q_scp_ne _ (by omega)] | rw [q_cpyo_off2 _ (by omega)] | rw [q_cpyo_ne _ (by omega)]) (by repeat first | rw [q_up_off _ _ (by omega)] | rw [q_fill_off _ _ _ (by omega)] | rw [q_addr_off _ _ _ (by omega)] | rw [q_addh_off _ _ _ (by omega)] | rw [q_subr_off _ _ _ (by omega)] | rw [q_subh_off _ _ _ (by omega)] | rw [q_cpy_off2 _ _ (by omega)] | rw [q_scp_off2 _ (by omega)] | rw [q_cpyo_off2 _ (by omega)]), q_R4_fr h4 (fun pa hpa => ⟨(by repeat first | rw [q_up_off _ _ (by omega)] | rw [q_fill_off _ _ _ (by omega)] | rw [q_addr_off _ _ _ (by omega)] | rw [q_addh_off _ _ _ (by omega)] | rw [q_subr_off _ _ _ (by omega)] | rw [q_subh_off _ _ _ (by omega)] | rw [q_cpy_off2 _ _ (by omega)] | rw [q_scp_off2 _ (by omega)] | rw [q_cpyo_off2 _ (by omega)]), (by repeat first | rw [q_up_off _ _ (by omega)] | rw [q_fill_off _ _ _ (by omega)] | rw [q_addr_off _ _ _ (by omega)] | rw [q_addh_off _ _ _ (by omega)] | rw [q_subr_off _ _ _ (by omega)] | rw [q_subh_off _ _ _ (by omega)] | rw [q_cpy_off2 _ _ (by omega)] | rw [q_scp_off2 _ (by omega)] | rw [q_cpyo_off2 _ (by omega)])⟩) (by repeat first | rw [q_up_ne _ _ (by omega)] | rw [q_fill_ne _ _ _ (by omega)] | rw [q_addr_off _ _ _ (by omega)] | rw [q_addh_off _ _ _ (by omega)] | rw [q_subr_off _ _ _ (by omega)] | rw [q_subh_off _ _ _ (by omega)] | rw [q_cpy_off2 _ _ (by omega)] | rw [q_scp_off2 _ (by omega)] | rw [q_scp_ne _ (by omega)] | rw [q_cpyo_off2 _ (by omega)] | rw [q_cpyo_ne _ (by omega)]) (by repeat first | rw [q_up_ne _ _ (by omega)] | rw [q_fill_ne _ _ _ (by omega)] | rw [q_addr_off _ _ _ (by omega)] | rw [q_addh_off _ _ _ (by omega)] | rw [q_subr_off _ _ _ (by omega)] | rw [q_subh_off _ _ _ (by omega)] | rw [q_cpy_off2 _ _ (by omega)] | rw [q_scp_off2 _ (by omega)] | rw [q_scp_ne _ (by omega)] | rw [q_cpyo_off2 _ (by omega)] | rw [q_cpyo_ne _ (by omega)]) (by repeat first | rw [q_up_off _ _ (by omega)] | rw [q_fill_off _ _ _ (by omega)] | rw [q_addr_off _ _ _ (by omega)] | rw [q_addh_off _ _ _ (by omega)] | rw [q_subr_off _ _ _ (by omega)] | rw [q_subh_off _ _ _ (by omega)] | rw [q_cpy_off2 _ _ (by omega)] | rw [q_scp_off2 _ (by omega)] | rw [q_cpyo_off2 _ (by omega)]) (by repeat first | rw [q_up_off _ _ (by omega)] | rw [q_fill_off _ _ _ (by omega)] | rw [q_addr_off _ _ _ (by omega)] | rw [q_addh_off _ _ _ (by omega)] | rw [q_subr_off _ _ _ (by omega)] | rw [q_subh_off _ _ _ (by omega)] | rw [q_cpy_off2 _ _ (by omega)] | rw [q_scp_off2 _ (by omega)] | rw [q_cpyo_off2 _ (by omega)]) (by repeat first | rw [q_up_off _ _ (by omega)] | rw [q_fill_off _ _ _ (by omega)] | rw [q_addr_off _ _ _ (by omega)] | rw [q_addh_off _ _ _ (by omega)] | rw [q_subr_off _ _ _ (by omega)] | rw [q_subh_off _ _ _ (by omega)] | rw [q_cpy_off2 _ _ (by omega)] | rw [q_scp_off2 _ (by omega)] | rw [q_cpyo_off2 _ (by omega)]), q_R5_fr h5 (fun pa hpa => ⟨(by repeat first | rw [q_up_off _ _ (by omega)] | rw [q_fill_off _ _ _ (by omega)] | rw [q_addr_off _ _ _ (by omega)] | rw [q_addh_off _ _ _ (by omega)] | rw [q_subr_off _ _ _ (by omega)] | rw [q_subh_off _ _ _ (by omega)] | rw [q_cpy_off2 _ _ (by omega)] | rw [q_scp_off2 _ (by omega)] | rw [q_cpyo_off2 _ (by omega)]), (by repeat first | rw [q_up_off _ _ (by omega)] | rw [q_fill_off _ _ _ (by omega)] | rw [q_addr_off _ _ _ (by omega)] | rw [q_addh_off _ _ _ (by omega)] | rw [q_subr_off _ _ _ (by omega)] | rw [q_subh_off _ _ _ (by omega)] | rw [q_cpy_off2 _ _ (by omega)] | rw [q_scp_off2 _ (by omega)] | rw [q_cpyo_off2 _ (by omega)])⟩) (by repeat first | rw [q_up_off _ _ (by omega)] | rw [q_fill_off _ _ _ (by omega)] | rw [q_addr_off _ _ _ (by omega)] | rw [q_addh_off _ _ _ (by omega)] | rw [q_subr_off _ _ _ (by omega)] | rw [q_subh_off _ _ _ (by omega)] | rw [q_cpy_off2 _ _ (by omega)] | rw [q_scp_off2 _ (by omega)] | rw [q_cpyo_off2 _ (by omega)]) (by repeat first | rw [q_up_off _ _ (by omega)] | rw [q_fill_off _ _ _ (by omega)] | rw [q_addr_off _ _ _ (by omega)] | rw [q_addh_off _ _ _ (by omega)] | rw [q_subr_off _ _ _ (by omega)] | rw [q_subh_off _ _ _ (by omega)] | rw [q_cpy_off2 _ _ (by omega)] | rw [q_scp_off2 _ (by omega)] | rw [q_cpyo_off2 _ (by omega)]) (by repeat first | rw [q_up_off _ _ (by omega)] | rw [q_fill_off _ _ _ (by omega)] | rw [q_addr_off _ _ _ (by omega)] | rw [q_addh_off _ _ _ (by omega)] | rw [q_subr_off _ _ _ (by omega)] | rw [q_subh_off _ _ _ (by omega)] | rw [q_cpy_off2 _ _ (by omega)] | rw [q_scp_off2 _ (by omega)] | rw [q_cpyo_off2 _ (by omega)]), ?_, q_R7_fr h7 (by repeat first | rw [q_up_off _ _ (by omega)] | rw [q_fill_off _ _ _ (by omega)] | rw [q_addr_off _ _ _ (by omega)] | rw [q_addh_off _ _ _ (by omega)] | rw [q_subr_off _ _ _ (by omega)] | rw [q_subh_off _ _ _ (by omega)] | rw [q_cpy_off2 _ _ (by omega)] | rw [q_scp_off2 _ (by omega)] | rw [q_cpyo_off2 _ (by omega)]) (by repeat first | rw [q_up_off _ _ (by omega)] | rw [q_fill_off _ _ _ (by omega)] | rw [q_addr_off _ _ _ (by omega)] | rw [q_addh_off _ _ _ (by omega)] | rw [q_subr_off _ _ _ (by omega)] | rw [q_subh_off _ _ _ (by omega)] | rw [q_cpy_off2 _ _ (by omega)] | rw [q_scp_off2 _ (by omega)] | rw [q_cpyo_off2 _ (by omega)]) (by repeat first | rw [q_up_off _ _ (by omega)] | rw [q_fill_off _ _ _ (by omega)] | rw [q_addr_off _ _ _ (by omega)] | rw [q_addh_off _ _ _ (by omega)] | rw [q_subr_off _ _ _ (by omega)] | rw [q_subh_off _ _ _ (by omega)] | rw [q_cpy_off2 _ _ (by omega)] | rw [q_scp_off2 _ (by omega)] | rw [q_cpyo_off2 _ (by omega)]) (by repeat first | rw [q_up_off _ _ (by omega)] | rw [q_fill_off _ _ _ (by omega)] | rw [q_addr_off _ _ _ (by omega)] | rw [q_addh_off _ _ _ (by omega)] | rw [q_subr_off _ _ _ (by omega)] | rw [q_subh_off _ _ _ (by omega)] | rw [q_cpy_off2 _ _ (by omega)] | rw [q_scp_off2 _ (by omega)] | rw [q_cpyo_off2 _ (by omega)]), q_R8_fr h8 (by repeat first | rw [q_up_off _ _ (by omega)] | rw [q_fill_off _ _ _ (by omega)] | rw [q_addr_off _ _ _ (by omega)] | rw [q_addh_off _ _ _ (by omega)] | rw [q_subr_off _ _ _ (by omega)] | rw [q_subh_off _ _ _ (by omega)] | rw [q_cpy_off2 _ _ (by omega)] | rw [q_scp_off2 _ (by omega)] | rw [q_cpyo_off2 _ (by omega)]) (by repeat first | rw [q_up_off _ _ (by omega)] | rw [q_fill_off _ _ _ (by omega)] | rw [q_addr_off _ _ _ (by omega)] | rw [q_addh_off _ _ _ (by omega)] | rw [q_subr_off _ _ _ (by omega)] | rw [q_subh_off _ _ _ (by omega)] | rw [q_cpy_off2 _ _ (by omega)] | rw [q_scp_off2 _ (by omega)] | rw [q_cpyo_off2 _ (by omega)]), q_R9_fr h9 (by repeat first | rw [q_up_off _ _ (by omega)] | rw [q_fill_off _ _ _ (by omega)] | rw [q_addr_off _ _ _ (by omega)] | rw [q_addh_off _ _ _ (by omega)] | rw [q_subr_off _ _ _ (by omega)] | rw [q_subh_off _ _ _ (by omega)] | rw [q_cpy_off2 _ _ (by omega)] | rw [q_scp_off2 _ (by omega)] | rw [q_cpyo_off2 _ (by omega)]) (by repeat first | rw [q_up_off _ _ (by omega)] | rw [q_fill_off _ _ _ (by omega)] | rw [q_addr_off _ _ _ (by omega)] | rw [q_addh_off _ _ _ (by omega)] | rw [q_subr_off _ _ _ (by omega)] | rw [q_subh_off _ _ _ (by omega)] | rw [q_cpy_off2 _ _ (by omega)] | rw [q_scp_off2 _ (by omega)] | rw [q_cpyo_off2 _ (by omega)]) (by repeat first | rw [q_up_off _ _ (by omega)] | rw [q_fill_off _ _ _ (by omega)] | rw [q_addr_off _ _ _ (by omega)] | rw [q_addh_off _ _ _ (by omega)] | rw [q_subr_off _ _ _ (by omega)] | rw [q_subh_off _ _ _ (by omega)] | rw [q_cpy_off2 _ _ (by omega)] | rw [q_scp_off2 _ (by omega)] | rw [q_cpyo_off2 _ (by omega)]) (by repeat first | rw [q_up_off _ _ (by omega)] | rw [q_fill_off _ _ _ (by omega)] | rw [q_addr_off _ _ _ (by omega)] | rw [q_addh_off _ _ _ (by omega)] | rw [q_subr_off _ _ _ (by omega)] | rw [q_subh_off _ _ _ (by omega)] | rw [q_cpy_off2 _ _ (by omega)] | rw [q_scp_off2 _ (by omega)] | rw [q_cpyo_off2 _ (by omega)]), h10⟩⟩
    have hsg : ∀ t, t < ns → q_sg V (q_up (q_scp (q_up (q_up (q_up (q_up (q_up (q_up (q_cpy (q_up (q_up V (27 + (13 + ns)) 1 (V (27 + 0) 1)) (27 + (13 + ns)) 2 (V (27 + 0) 2)) (48 + 0) (48 + (13 + ns)) 48) 11 ns x) 0 13 (nI (ns + 1))) 19 0 (nI 0)) 85 ns (nI (q_gw V 0))) 86 ns (nI (q_gh V 0))) 88 ns x) ns (q_gw V 0) ((q_gw V 0) * (q_gh V 0))) 19 20 (nI (ns + 1))) (13 + t) := fun t ht => ⟨(by repeat first | rw [q_up_off _ _ (by omega)] | rw [q_fill_off _ _ _ (by omega)] | rw [q_addr_off _ _ _ (by omega)] | rw [q_addh_off _ _ _ (by omega)] | rw [q_subr_off _ _ _ (by omega)] | rw [q_subh_off _ _ _ (by omega)] | rw [q_cpy_off2 _ _ (by omega)] | rw [q_scp_off2 _ (by omega)] | rw [q_cpyo_off2 _ (by omega)]), (by repeat first | rw [q_up_off _ _ (by omega)] | rw [q_fill_off _ _ _ (by omega)] | rw [q_addr_off _ _ _ (by omega)] | rw [q_addh_off _ _ _ (by omega)] | rw [q_subr_off _ _ _ (by omega)] | rw [q_subh_off _ _ _ (by omega)] | rw [q_cpy_off2 _ _ (by omega)] | rw [q_scp_off2 _ (by omega)] | rw [q_cpyo_off2 _ (by omega)])⟩
    have e1 : (q_up (q_scp (q_up (q_up (q_up (q_up (q_up (q_up (q_cpy (q_up (q_up V (27 + (13 + ns)) 1 (V (27 + 0) 1)) (27 + (13 + ns)) 2 (V (27 + 0) 2)) (48 + 0) (48 + (13 + ns)) 48) 11 ns x) 0 13 (nI (ns + 1))) 19 0 (nI 0)) 85 ns (nI (q_gw V 0))) 86 ns (nI (q_gh V 0))) 88 ns x) ns (q_gw V 0) ((q_gw V 0) * (q_gh V 0))) 19 20 (nI (ns + 1))) (27 + (13 + ns)) 1 = V (27 + 0) 1 := by repeat first | rw [q_up_self] | rw [q_up_ne _ _ (by omega)] | rw [q_fill_ne _ _ _ (by omega)] | rw [q_addr_off _ _ _ (by omega)] | rw [q_addh_off _ _ _ (by omega)] | rw [q_subr_off _ _ _ (by omega)] | rw [q_subh_off _ _ _ (by omega)] | rw [q_cpy_off2 _ _ (by omega)] | rw [q_scp_off2 _ (by omega)] | rw [q_scp_ne _ (by omega)] | rw [q_cpyo_off2 _ (by omega)] | rw [q_cpyo_ne _ (by omega)]
    have e2 : (q_up (q_scp (q_up (q_up (q_up (q_up (q_up (q_up (q_cpy (q_up (q_up V (27 + (13 + ns)) 1 (V (27 + 0) 1)) (27 + (13 + ns)) 2 (V (27 + 0) 2)) (48 + 0) (48 + (13 + ns)) 48) 11 ns x) 0 13 (nI (ns + 1))) 19 0 (nI 0)) 85 ns (nI (q_gw V 0))) 86 ns (nI (q_gh V 0))) 88 ns x) ns (q_gw V 0) ((q_gw V 0) * (q_gh V 0))) 19 20 (nI (ns + 1))) (27 + (13 + ns)) 2 = V (27 + 0) 2 := by repeat first | rw [q_up_self] | rw [q_up_ne _ _ (by omega)] | rw [q_fill_ne _ _ _ (by omega)] | rw [q_addr_off _ _ _ (by omega)] | rw [q_addh_off _ _ _ (by omega)] | rw [q_subr_off _ _ _ (by omega)] | rw [q_subh_off _ _ _ (by omega)] | rw [q_cpy_off2 _ _ (by omega)] | rw [q_scp_off2 _ (by omega)] | rw [q_scp_ne _ (by omega)] | rw [q_cpyo_off2 _ (by omega)] | rw [q_cpyo_ne _ (by omega)]
    have egw : q_gw (q_up (q_scp (q_up (q_up (q_up (q_up (q_up (q_up (q_cpy (q_up (q_up V (27 + (13 + ns)) 1 (V (27 + 0) 1)) (27 + (13 + ns)) 2 (V (27 + 0) 2)) (48 + 0) (48 + (13 + ns)) 48) 11 ns x) 0 13 (nI (ns + 1))) 19 0 (nI 0)) 85 ns (nI (q_gw V 0))) 86 ns (nI (q_gh V 0))) 88 ns x) ns (q_gw V 0) ((q_gw V 0) * (q_gh V 0))) 19 20 (nI (ns + 1))) (13 + ns) = q_gw V 0 := congrArg q_n e1
    have egh : q_gh (q_up (q_scp (q_up (q_up (q_up (q_up (q_up (q_up (q_cpy (q_up (q_up V (27 + (13 + ns)) 1 (V (27 + 0) 1)) (27 + (13 + ns)) 2 (V (27 + 0) 2)) (48 + 0) (48 + (13 + ns)) 48) 11 ns x) 0 13 (nI (ns + 1))) 19 0 (nI 0)) 85 ns (nI (q_gw V 0))) 86 ns (nI (q_gh V 0))) 88 ns x) ns (q_gw V 0) ((q_gw V 0) * (q_gh V 0))) 19 20 (nI (ns + 1))) (13 + ns) = q_gh V 0 := congrArg q_n e2
    refine ⟨by repeat first | rw [q_up_self] | rw [q_up_ne _ _ (by omega)] | rw [q_fill_ne _ _ _ (by omega)] | rw [q_addr_off _ _ _ (by omega)] | rw [q_addh_off _ _ _ (by omega)] | rw [q_subr_off _ _ _ (by omega)] | rw [q_subh_off _ _ _ (by omega)] | rw [q_cpy_off2 _ _ (by omega)] | rw [q_scp_off2 _ (by omega)] | rw [q_scp_ne _ (by omega)] | rw [q_cpyo_off2 _ (by omega)] | rw [q_cpyo_ne _ (by omega)], by repeat first | rw [q_up_self] | rw [q_up_ne _ _ (by omega)] | rw [q_fill_ne _ _ _ (by omega)] | rw [q_addr_off _ _ _ (by omega)] | rw [q_addh_off _ _ _ (by omega)] | rw [q_subr_off _ _ _ (by omega)] | rw [q_subh_off _ _ _ (by omega)] | rw [q_cpy_off2 _ _ (by omega)] | rw [q_scp_off2 _ (by omega)] | rw [q_scp_ne _ (by omega)] | rw [q_cpyo_off2 _ (by omega)] | rw [q_cpyo_ne _ (by omega)], by omega, fun t ht => ?_, fun t ht => ?_⟩
    · by_cases e : t = ns
      · subst e
        rw [egw, egh]
        exact ⟨e1.trans h3.1.1, e2.trans h3.1.2.1, hd⟩
      · rw [q_sg_gw (hsg t (by omega)), q_sg_gh (hsg t (by omega))]
        exact q_sg_gok (hsg t (by omega)) (h6.2.2.2.1 t (by omega))
    · by_cases e : t = ns
      · subst e
        rw [egw, egh, e1, e2]
        refine ⟨?_, ?_, hw3, hh3, ?_, fun r c hr hc9 => ?_⟩
        · repeat first | rw [q_up_self] | rw [q_up_ne _ _ (by omega)] | rw [q_fill_ne _ _ _ (by omega)] | rw [q_addr_off _ _ _ (by omega)] | rw [q_addh_off _ _ _ (by omega)] | rw [q_subr_off _ _ _ (by omega)] | rw [q_subh_off _ _ _ (by omega)] | rw [q_cpy_off2 _ _ (by omega)] | rw [q_scp_off2 _ (by omega)] | rw [q_scp_ne _ (by omega)] | rw [q_cpyo_off2 _ (by omega)] | rw [q_cpyo_ne _ (by omega)]
          exact h3.1.1.symm
        · repeat first | rw [q_up_self] | rw [q_up_ne _ _ (by omega)] | rw [q_fill_ne _ _ _ (by omega)] | rw [q_addr_off _ _ _ (by omega)] | rw [q_addh_off _ _ _ (by omega)] | rw [q_subr_off _ _ _ (by omega)] | rw [q_subh_off _ _ _ (by omega)] | rw [q_cpy_off2 _ _ (by omega)] | rw [q_scp_off2 _ (by omega)] | rw [q_scp_ne _ (by omega)] | rw [q_cpyo_off2 _ (by omega)] | rw [q_cpyo_ne _ (by omega)]
          exact h3.1.2.1.symm
        · repeat first | rw [q_up_self] | rw [q_up_ne _ _ (by omega)] | rw [q_fill_ne _ _ _ (by omega)] | rw [q_addr_off _ _ _ (by omega)] | rw [q_addh_off _ _ _ (by omega)] | rw [q_subr_off _ _ _ (by omega)] | rw [q_subh_off _ _ _ (by omega)] | rw [q_cpy_off2 _ _ (by omega)] | rw [q_scp_off2 _ (by omega)] | rw [q_scp_ne _ (by omega)] | rw [q_cpyo_off2 _ (by omega)] | rw [q_cpyo_ne _ (by omega)]
        · have hi := q_ix hr hc9
          have h48 := q_gwh h3.1
          rw [q_up_ne _ _ (by omega)]
          refine (if_pos ⟨rfl, by omega, by omega⟩ : q_scp _ t (q_gw V 0) ((q_gw V 0) * (q_gh V 0)) 87 (9 * t + (r * (q_gw V 0) + c)) = _).trans ?_
          rw [Nat.add_sub_cancel_left, (q_dm hc9).1, (q_dm hc9).2]
          rw [q_up_ne (k := 19) (j := 20) _ _ (by omega), q_scp_off2 _ (by omega)]
          repeat rw [q_up_ne _ _ (by omega)]
          rw [q_cpy_off2 _ _ (by omega)]
          repeat rw [q_up_ne _ _ (by omega)]
          refine (h3.2.2.2 r c hr hc9).trans ?_
          refine Eq.trans ?_ (if_pos ⟨rfl, by omega⟩ : q_cpy (q_up (q_up V (27 + (13 + t)) 1 (V (27 + 0) 1)) (27 + (13 + t)) 2 (V (27 + 0) 2)) (48 + 0) (48 + (13 + t)) 48 (48 + (13 + t)) (r * (q_gw V 0) + c) = _).symm
          repeat rw [q_up_ne _ _ (by omega)]
      · obtain ⟨b1, b2, b3, b4, b5, b6⟩ := h6.2.2.2.2 t (by omega)
        have g6 := h6.2.2.2.1 t (by omega)
        rw [q_sg_gw (hsg t (by omega)), q_sg_gh (hsg t (by omega)), (hsg t (by omega)).1]
        refine ⟨?_, ?_, b3, b4, ?_, fun r c hr hc9 => ?_⟩
        · repeat first | rw [q_up_ne _ _ (by omega)] | rw [q_fill_ne _ _ _ (by omega)] | rw [q_addr_off _ _ _ (by omega)] | rw [q_addh_off _ _ _ (by omega)] | rw [q_subr_off _ _ _ (by omega)] | rw [q_subh_off _ _ _ (by omega)] | rw [q_cpy_off2 _ _ (by omega)] | rw [q_scp_off2 _ (by omega)] | rw [q_scp_ne _ (by omega)] | rw [q_cpyo_off2 _ (by omega)] | rw [q_cpyo_ne _ (by omega)]
          exact b1
        · repeat first | rw [q_up_ne _ _ (by omega)] | rw [q_fill_ne _ _ _ (by omega)] | rw [q_addr_off _ _ _ (by omega)] | rw [q_addh_off _ _ _ (by omega)] | rw [q_subr_off _ _ _ (by omega)] | rw [q_subh_off _ _ _ (by omega)] | rw [q_cpy_off2 _ _ (by omega)] | rw [q_scp_off2 _ (by omega)] | rw [q_scp_ne _ (by omega)] | rw [q_cpyo_off2 _ (by omega)] | rw [q_cpyo_ne _ (by omega)]
          exact b2
        · repeat first | rw [q_up_ne _ _ (by omega)] | rw [q_fill_ne _ _ _ (by omega)] | rw [q_addr_off _ _ _ (by omega)] | rw [q_addh_off _ _ _ (by omega)] | rw [q_subr_off _ _ _ (by omega)] | rw [q_subh_off _ _ _ (by omega)] | rw [q_cpy_off2 _ _ (by omega)] | rw [q_scp_off2 _ (by omega)] | rw [q_scp_ne _ (by omega)] | rw [q_cpyo_off2 _ (by omega)] | rw [q_cpyo_ne _ (by omega)]
          exact b5
        · have hi := q_ix hr hc9
          have h9 : q_gw V (13 + t) * q_gh V (13 + t) ≤ 3 * 3 := Nat.mul_le_mul b3 b4
          rw [(hsg t (by omega)).2]
          repeat first | rw [q_up_ne _ _ (by omega)] | rw [q_fill_ne _ _ _ (by omega)] | rw [q_addr_off _ _ _ (by omega)] | rw [q_addh_off _ _ _ (by omega)] | rw [q_subr_off _ _ _ (by omega)] | rw [q_subh_off _ _ _ (by omega)] | rw [q_cpy_off2 _ _ (by omega)] | rw [q_scp_off2 _ (by omega)] | rw [q_scp_ne _ (by omega)] | rw [q_cpyo_off2 _ (by omega)] | rw [q_cpyo_ne _ (by omega)]
          exact b6 r c hr hc9
theorem q_morg_77 {P : q_V} {n o : Nat} (z : Int32) (h : q_morg P n o) : q_morg (q_up P 77 n z) n o := h
theorem q_pat_rel {V U : q_V} {G : q_G} {n ns a o : Nat} (h : q_Rel V G n ns) (hn12 : n < 12) (ha : a < 7) (hsg : ∀ i, i ≠ 1 + n → i < 21 → q_sg V U i)
    (e1 : U (27 + (1 + n)) 1 = V (27 + 0) 1) (e2 : U (27 + (1 + n)) 2 = V (27 + 0) 2) (ec : ∀ r c, r < q_gh V 0 → c < q_gw V 0 → U (48 + (1 + n)) (r * q_gw V 0 + c) = V (48 + 0) (r * q_gw V 0 + c))
    (u06 : U 0 6 = nI (n + 1)) (u013 : U 0 13 = V 0 13) (u197 : U 19 7 = nI (n + 1)) (u194 : U 19 4 = V 19 4) (u195 : U 19 5 = V 19 5) (u1920 : U 19 20 = V 19 20)
    (u73 : U 73 n = V (27 + 0) 1) (u73' : ∀ t, t < n → U 73 t = V 73 t) (u74 : U 74 n = V (27 + 0) 2) (u74' : ∀ t, t < n → U 74 t = V 74 t)
    (u75 : ∀ r c, r < 6 → c < 8 → U 75 (48 * n + 8 * r + c) = V 72 (8 * r + c)) (u75' : ∀ j, j < 48 * n → U 75 j = V 75 j)
    (u76 : U 76 n = U 5 n) (u76' : ∀ t, t < n → U 76 t = V 76 t) (u5 : U 5 n = nI a) (u5' : ∀ t, t < n → U 5 t = V 5 t) (u77 : U 77 n = nI o) (u77' : ∀ t, t < n → U 77 t = V 77 t)
    (urow : ∀ i, i ≠ 0 → i ≠ 5 → i ≠ 19 → i ≠ 73 → i ≠ 74 → i ≠ 75 → i ≠ 76 → i ≠ 77 → i < 27 ∨ 69 ≤ i → U i = V i) (hmo : q_morg U n o) : q_Rel U G (n + 1) ns := by
  obtain ⟨h1, h2, h3, h4, h5, h6, h7, h8, h9, h10⟩ := id h
  have hns := h6.2.2.1
  have hd := h3.1.2.2
  have egw : q_gw U (1 + n) = q_gw V 0 := congrArg q_n e1
  have egh : q_gh U (1 + n) = q_gh V 0 := congrArg q_n e2
  have R : ∀ i, i ≠ 0 ∧ i ≠ 5 ∧ i ≠ 19 ∧ ¬ (73 ≤ i ∧ i ≤ 77) ∧ ¬ (27 ≤ i ∧ i < 69) → U i = V i := fun i hi => urow i (by omega) (by omega) (by omega) (by omega) (by omega) (by omega) (by omega) (by omega) (by omega)
  have r4 : q_R4 U (n + 1) := by
    refine ⟨u06, u197, by omega, fun t ht => ?_, fun t ht => ?_⟩
    · by_cases e : t = n
      · subst e
        rw [egw, egh]
        exact ⟨e1.trans h3.1.1, e2.trans h3.1.2.1, hd⟩
      · have hs := hsg (1 + t) (by omega) (by omega)
        rw [q_sg_gw hs, q_sg_gh hs]
        exact q_sg_gok hs (h4.2.2.2.1 t (by omega))
    · by_cases e : t = n
      · subst e
        rw [egw, egh, e1, e2]
        refine ⟨u73, u74, fun r c hr hc => ?_⟩
        rw [u75 r c (by omega) (by omega), ec r c hr hc]
        exact h3.2.2.2 r c hr hc
      · have hs := hsg (1 + t) (by omega) (by omega)
        obtain ⟨b1, b2, b3⟩ := h4.2.2.2.2 t (by omega)
        have g4 := h4.2.2.2.1 t (by omega)
        have g1 := g4.2.2.2.1
        have g2 := g4.2.2.2.2.2
        rw [q_sg_gw hs, q_sg_gh hs, hs.1, u73' t (by omega), u74' t (by omega)]
        exact ⟨b1, b2, fun r c hr hc => by rw [hs.2, u75' _ (by omega)]; exact b3 r c hr hc⟩
  refine ⟨q_R1_fr h1 (R _ (by omega)) (fun p hp => R _ (by omega)), q_R2_fr h2 (R _ (by omega)) (R _ (by omega)) (R _ (by omega)) (R _ (by omega)), q_R3_fr h3 (hsg 0 (by omega) (by omega)) u194 u195 (R _ (by omega)), r4, fun t ht => ?_,
    q_R6_fr h6 (fun t ht => hsg _ (by omega) (by omega)) u013 u1920 (R _ (by omega)) (R _ (by omega)) (R _ (by omega)) (R _ (by omega)) (R _ (by omega)), fun b hb => ?_, q_R8_fr h8 (R _ (by omega)) (R _ (by omega)), q_R9_fr h9 (R _ (by omega)) (R _ (by omega)) (R _ (by omega)) (R _ (by omega)), h10⟩
  · by_cases e : t = n
    · subst e
      refine ⟨u76, ⟨a, ha, u5⟩, o, ?_, u77⟩
      refine ⟨hmo.1, fun hlt => ?_, fun o' ho' hq => ?_⟩
      · obtain ⟨k, hk8, hm⟩ := hmo.2.1 hlt
        exact ⟨k, hk8, (q_Rel_alk r4 (by omega) (by omega) hk8).mp hm⟩
      · obtain ⟨k, hk8, hm⟩ := hq
        exact hmo.2.2 o' ho' ⟨k, hk8, (q_Rel_alk r4 (by omega) (by have := hmo.1; omega) hk8).mpr hm⟩
    · obtain ⟨b1, b2, o3, b3, b4⟩ := h5 t (by omega)
      rw [u76' t (by omega), u5' t (by omega), u77' t (by omega)]
      exact ⟨b1, b2, o3, q_corg_sg (fun q hq => hsg _ (by omega) (by omega)) b3, b4⟩
  · rw [R 78 (by omega), R 6 (by omega), R 79 (by omega), R 7 (by omega)]
    obtain ⟨b1, b2, b3, b4⟩ := h7 b hb
    exact ⟨b1, b2, b3.imp id (fun ⟨pa, hpa, e⟩ => ⟨pa, by omega, e⟩), b4⟩
/-- what the program's step, then the reference's, make of the memory -/
def q_patU (V : q_V) (n a o : Nat) (w h : Int32) : q_V := q_up (q_up (q_cpyo (q_up (q_up (q_up (q_up (q_up (q_up (q_cpy (q_up (q_up V (27 + (1 + n)) 1 (V (27 + 0) 1)) (27 + (1 + n)) 2 (V (27 + 0) 2)) (48 + 0) (48 + (1 + n)) 48) 5 n (nI a)) 0 6 (nI (n + 1))) 19 0 (nI 0)) 73 n w) 74 n h) 76 n (nI a)) 72 75 (48 * n) 48) 19 7 (nI (n + 1))) 77 n (nI o)
theorem q_patU_off {V : q_V} {n a o i : Nat} {w h : Int32} (hi : i ≠ 27 + (1 + n)) (hi2 : i ≠ 48 + (1 + n)) (h0 : i ≠ 0) (h1 : i ≠ 5) (h2 : i ≠ 19) (h3 : i ≠ 73) (h4 : i ≠ 74) (h5 : i ≠ 75) (h6 : i ≠ 76) (h7 : i ≠ 77) : q_patU V n a o w h i = V i := by
  unfold q_patU
  rw [q_up_off _ _ h7, q_up_off _ _ h2, q_cpyo_off2 _ h5, q_up_off _ _ h6, q_up_off _ _ h4, q_up_off _ _ h3, q_up_off _ _ h2, q_up_off _ _ h0, q_up_off _ _ h1, q_cpy_off2 _ _ hi2, q_up_off _ _ hi, q_up_off _ _ hi]
theorem q_patU_g1 (V : q_V) {n a o : Nat} (w h : Int32) (hn : n < 12) : q_patU V n a o w h (27 + (1 + n)) 1 = V (27 + 0) 1 := by
  unfold q_patU
  repeat first | rw [q_up_self] | rw [q_up_ne _ _ (by omega)] | rw [q_fill_ne _ _ _ (by omega)] | rw [q_addr_off _ _ _ (by omega)] | rw [q_addh_off _ _ _ (by omega)] | rw [q_subr_off _ _ _ (by omega)] | rw [q_subh_off _ _ _ (by omega)] | rw [q_cpy_off2 _ _ (by omega)] | rw [q_scp_off2 _ (by omega)] | rw [q_scp_ne _ (by omega)] | rw [q_cpyo_off2 _ (by omega)] | rw [q_cpyo_ne _ (by omega)]
theorem q_patU_g2 (V : q_V) {n a o : Nat} (w h : Int32) (hn : n < 12) : q_patU V n a o w h (27 + (1 + n)) 2 = V (27 + 0) 2 := by
  unfold q_patU
  repeat first | rw [q_up_self] | rw [q_up_ne _ _ (by omega)] | rw [q_fill_ne _ _ _ (by omega)] | rw [q_addr_off _ _ _ (by omega)] | rw [q_addh_off _ _ _ (by omega)] | rw [q_subr_off _ _ _ (by omega)] | rw [q_subh_off _ _ _ (by omega)] | rw [q_cpy_off2 _ _ (by omega)] | rw [q_scp_off2 _ (by omega)] | rw [q_scp_ne _ (by omega)] | rw [q_cpyo_off2 _ (by omega)] | rw [q_cpyo_ne _ (by omega)]
theorem q_patU_c (V : q_V) {n a o : Nat} (w h : Int32) (hn : n < 12) {j : Nat} (hj : j < 48) : q_patU V n a o w h (48 + (1 + n)) j = V (48 + 0) j := by
  unfold q_patU
  repeat first | rw [q_up_ne _ _ (by omega)] | rw [q_cpyo_off2 _ (by omega)]
  refine (if_pos ⟨rfl, hj⟩ : q_cpy _ (48 + 0) (48 + (1 + n)) 48 (48 + (1 + n)) j = _).trans ?_
  repeat rw [q_up_ne _ _ (by omega)]
theorem q_patU_06 (V : q_V) {n a o : Nat} (w h : Int32) (hn : n < 12) : q_patU V n a o w h 0 6 = nI (n + 1) := by
  unfold q_patU
  repeat first | rw [q_up_self] | rw [q_up_ne _ _ (by omega)] | rw [q_fill_ne _ _ _ (by omega)] | rw [q_addr_off _ _ _ (by omega)] | rw [q_addh_off _ _ _ (by omega)] | rw [q_subr_off _ _ _ (by omega)] | rw [q_subh_off _ _ _ (by omega)] | rw [q_cpy_off2 _ _ (by omega)] | rw [q_scp_off2 _ (by omega)] | rw [q_scp_ne _ (by omega)] | rw [q_cpyo_off2 _ (by omega)] | rw [q_cpyo_ne _ (by omega)]
theorem q_patU_013 (V : q_V) {n a o : Nat} (w h : Int32) (hn : n < 12) : q_patU V n a o w h 0 13 = V 0 13 := by
  unfold q_patU
  repeat first | rw [q_up_self] | rw [q_up_ne _ _ (by omega)] | rw [q_fill_ne _ _ _ (by omega)] | rw [q_addr_off _ _ _ (by omega)] | rw [q_addh_off _ _ _ (by omega)] | rw [q_subr_off _ _ _ (by omega)] | rw [q_subh_off _ _ _ (by omega)] | rw [q_cpy_off2 _ _ (by omega)] | rw [q_scp_off2 _ (by omega)] | rw [q_scp_ne _ (by omega)] | rw [q_cpyo_off2 _ (by omega)] | rw [q_cpyo_ne _ (by omega)]
theorem q_patU_197 (V : q_V) {n a o : Nat} (w h : Int32) (hn : n < 12) : q_patU V n a o w h 19 7 = nI (n + 1) := by
  unfold q_patU
  repeat first | rw [q_up_self] | rw [q_up_ne _ _ (by omega)] | rw [q_fill_ne _ _ _ (by omega)] | rw [q_addr_off _ _ _ (by omega)] | rw [q_addh_off _ _ _ (by omega)] | rw [q_subr_off _ _ _ (by omega)] | rw [q_subh_off _ _ _ (by omega)] | rw [q_cpy_off2 _ _ (by omega)] | rw [q_scp_off2 _ (by omega)] | rw [q_scp_ne _ (by omega)] | rw [q_cpyo_off2 _ (by omega)] | rw [q_cpyo_ne _ (by omega)]
theorem q_patU_194 (V : q_V) {n a o : Nat} (w h : Int32) (hn : n < 12) : q_patU V n a o w h 19 4 = V 19 4 := by
  unfold q_patU
  repeat first | rw [q_up_self] | rw [q_up_ne _ _ (by omega)] | rw [q_fill_ne _ _ _ (by omega)] | rw [q_addr_off _ _ _ (by omega)] | rw [q_addh_off _ _ _ (by omega)] | rw [q_subr_off _ _ _ (by omega)] | rw [q_subh_off _ _ _ (by omega)] | rw [q_cpy_off2 _ _ (by omega)] | rw [q_scp_off2 _ (by omega)] | rw [q_scp_ne _ (by omega)] | rw [q_cpyo_off2 _ (by omega)] | rw [q_cpyo_ne _ (by omega)]
theorem q_patU_195 (V : q_V) {n a o : Nat} (w h : Int32) (hn : n < 12) : q_patU V n a o w h 19 5 = V 19 5 := by
  unfold q_patU
  repeat first | rw [q_up_self] | rw [q_up_ne _ _ (by omega)] | rw [q_fill_ne _ _ _ (by omega)] | rw [q_addr_off _ _ _ (by omega)] | rw [q_addh_off _ _ _ (by omega)] | rw [q_subr_off _ _ _ (by omega)] | rw [q_subh_off _ _ _ (by omega)] | rw [q_cpy_off2 _ _ (by omega)] | rw [q_scp_off2 _ (by omega)] | rw [q_scp_ne _ (by omega)] | rw [q_cpyo_off2 _ (by omega)] | rw [q_cpyo_ne _ (by omega)]
theorem q_patU_1920 (V : q_V) {n a o : Nat} (w h : Int32) (hn : n < 12) : q_patU V n a o w h 19 20 = V 19 20 := by
  unfold q_patU
  repeat first | rw [q_up_self] | rw [q_up_ne _ _ (by omega)] | rw [q_fill_ne _ _ _ (by omega)] | rw [q_addr_off _ _ _ (by omega)] | rw [q_addh_off _ _ _ (by omega)] | rw [q_subr_off _ _ _ (by omega)] | rw [q_subh_off _ _ _ (by omega)] | rw [q_cpy_off2 _ _ (by omega)] | rw [q_scp_off2 _ (by omega)] | rw [q_scp_ne _ (by omega)] | rw [q_cpyo_off2 _ (by omega)] | rw [q_cpyo_ne _ (by omega)]
theorem q_patU_190 (V : q_V) {n a o : Nat} (w h : Int32) (hn : n < 12) : q_patU V n a o w h 19 0 = nI 0 := by
  unfold q_patU
  repeat first | rw [q_up_self] | rw [q_up_ne _ _ (by omega)] | rw [q_fill_ne _ _ _ (by omega)] | rw [q_addr_off _ _ _ (by omega)] | rw [q_addh_off _ _ _ (by omega)] | rw [q_subr_off _ _ _ (by omega)] | rw [q_subh_off _ _ _ (by omega)] | rw [q_cpy_off2 _ _ (by omega)] | rw [q_scp_off2 _ (by omega)] | rw [q_scp_ne _ (by omega)] | rw [q_cpyo_off2 _ (by omega)] | rw [q_cpyo_ne _ (by omega)]
theorem q_patU_73 (V : q_V) {n a o : Nat} (w h : Int32) (hn : n < 12) : q_patU V n a o w h 73 n = w := by
  unfold q_patU
  repeat first | rw [q_up_self] | rw [q_up_ne _ _ (by omega)] | rw [q_fill_ne _ _ _ (by omega)] | rw [q_addr_off _ _ _ (by omega)] | rw [q_addh_off _ _ _ (by omega)] | rw [q_subr_off _ _ _ (by omega)] | rw [q_subh_off _ _ _ (by omega)] | rw [q_cpy_off2 _ _ (by omega)] | rw [q_scp_off2 _ (by omega)] | rw [q_scp_ne _ (by omega)] | rw [q_cpyo_off2 _ (by omega)] | rw [q_cpyo_ne _ (by omega)]
theorem q_patU_74 (V : q_V) {n a o : Nat} (w h : Int32) (hn : n < 12) : q_patU V n a o w h 74 n = h := by
  unfold q_patU
  repeat first | rw [q_up_self] | rw [q_up_ne _ _ (by omega)] | rw [q_fill_ne _ _ _ (by omega)] | rw [q_addr_off _ _ _ (by omega)] | rw [q_addh_off _ _ _ (by omega)] | rw [q_subr_off _ _ _ (by omega)] | rw [q_subh_off _ _ _ (by omega)] | rw [q_cpy_off2 _ _ (by omega)] | rw [q_scp_off2 _ (by omega)] | rw [q_scp_ne _ (by omega)] | rw [q_cpyo_off2 _ (by omega)] | rw [q_cpyo_ne _ (by omega)]
theorem q_patU_76 (V : q_V) {n a o : Nat} (w h : Int32) (hn : n < 12) : q_patU V n a o w h 76 n = nI a := by
  unfold q_patU
  repeat first | rw [q_up_self] | rw [q_up_ne _ _ (by omega)] | rw [q_fill_ne _ _ _ (by omega)] | rw [q_addr_off _ _ _ (by omega)] | rw [q_addh_off _ _ _ (by omega)] | rw [q_subr_off _ _ _ (by omega)] | rw [q_subh_off _ _ _ (by omega)] | rw [q_cpy_off2 _ _ (by omega)] | rw [q_scp_off2 _ (by omega)] | rw [q_scp_ne _ (by omega)] | rw [q_cpyo_off2 _ (by omega)] | rw [q_cpyo_ne _ (by omega)]
theorem q_patU_5 (V : q_V) {n a o : Nat} (w h : Int32) (hn : n < 12) : q_patU V n a o w h 5 n = nI a := by
  unfold q_patU
  repeat first | rw [q_up_self] | rw [q_up_ne _ _ (by omega)] | rw [q_fill_ne _ _ _ (by omega)] | rw [q_addr_off _ _ _ (by omega)] | rw [q_addh_off _ _ _ (by omega)] | rw [q_subr_off _ _ _ (by omega)] | rw [q_subh_off _ _ _ (by omega)] | rw [q_cpy_off2 _ _ (by omega)] | rw [q_scp_off2 _ (by omega)] | rw [q_scp_ne _ (by omega)] | rw [q_cpyo_off2 _ (by omega)] | rw [q_cpyo_ne _ (by omega)]
theorem q_patU_77 (V : q_V) {n a o : Nat} (w h : Int32) (hn : n < 12) : q_patU V n a o w h 77 n = nI o := by
  unfold q_patU
  repeat first | rw [q_up_self] | rw [q_up_ne _ _ (by omega)] | rw [q_fill_ne _ _ _ (by omega)] | rw [q_addr_off _ _ _ (by omega)] | rw [q_addh_off _ _ _ (by omega)] | rw [q_subr_off _ _ _ (by omega)] | rw [q_subh_off _ _ _ (by omega)] | rw [q_cpy_off2 _ _ (by omega)] | rw [q_scp_off2 _ (by omega)] | rw [q_scp_ne _ (by omega)] | rw [q_cpyo_off2 _ (by omega)] | rw [q_cpyo_ne _ (by omega)]
theorem q_patU_73n (V : q_V) {n a o : Nat} (w h : Int32) (hn : n < 12) {t : Nat} (ht : t < n) : q_patU V n a o w h 73 t = V 73 t := by
  unfold q_patU
  repeat first | rw [q_up_self] | rw [q_up_ne _ _ (by omega)] | rw [q_fill_ne _ _ _ (by omega)] | rw [q_addr_off _ _ _ (by omega)] | rw [q_addh_off _ _ _ (by omega)] | rw [q_subr_off _ _ _ (by omega)] | rw [q_subh_off _ _ _ (by omega)] | rw [q_cpy_off2 _ _ (by omega)] | rw [q_scp_off2 _ (by omega)] | rw [q_scp_ne _ (by omega)] | rw [q_cpyo_off2 _ (by omega)] | rw [q_cpyo_ne _ (by omega)]
theorem q_patU_74n (V : q_V) {n a o : Nat} (w h : Int32) (hn : n < 12) {t : Nat} (ht : t < n) : q_patU V n a o w h 74 t = V 74 t := by
  unfold q_patU
  repeat first | rw [q_up_self] | rw [q_up_ne _ _ (by omega)] | rw [q_fill_ne _ _ _ (by omega)] | rw [q_addr_off _ _ _ (by omega)] | rw [q_addh_off _ _ _ (by omega)] | rw [q_subr_off _ _ _ (by omega)] | rw [q_subh_off _ _ _ (by omega)] | rw [q_cpy_off2 _ _ (by omega)] | rw [q_scp_off2 _ (by omega)] | rw [q_scp_ne _ (by omega)] | rw [q_cpyo_off2 _ (by omega)] | rw [q_cpyo_ne _ (by omega)]
theorem q_patU_76n (V : q_V) {n a o : Nat} (w h : Int32) (hn : n < 12) {t : Nat} (ht : t < n) : q_patU V n a o w h 76 t = V 76 t := by
  unfold q_patU
  repeat first | rw [q_up_self] | rw [q_up_ne _ _ (by omega)] | rw [q_fill_ne _ _ _ (by omega)] | rw [q_addr_off _ _ _ (by omega)] | rw [q_addh_off _ _ _ (by omega)] | rw [q_subr_off _ _ _ (by omega)] | rw [q_subh_off _ _ _ (by omega)] | rw [q_cpy_off2 _ _ (by omega)] | rw [q_scp_off2 _ (by omega)] | rw [q_scp_ne _ (by omega)] | rw [q_cpyo_off2 _ (by omega)] | rw [q_cpyo_ne _ (by omega)]
theorem q_patU_5n (V : q_V) {n a o : Nat} (w h : Int32) (hn : n < 12) {t : Nat} (ht : t < n) : q_patU V n a o w h 5 t = V 5 t := by
  unfold q_patU
  repeat first | rw [q_up_self] | rw [q_up_ne _ _ (by omega)] | rw [q_fill_ne _ _ _ (by omega)] | rw [q_addr_off _ _ _ (by omega)] | rw [q_addh_off _ _ _ (by omega)] | rw [q_subr_off _ _ _ (by omega)] | rw [q_subh_off _ _ _ (by omega)] | rw [q_cpy_off2 _ _ (by omega)] | rw [q_scp_off2 _ (by omega)] | rw [q_scp_ne _ (by omega)] | rw [q_cpyo_off2 _ (by omega)] | rw [q_cpyo_ne _ (by omega)]
theorem q_patU_77n (V : q_V) {n a o : Nat} (w h : Int32) (hn : n < 12) {t : Nat} (ht : t < n) : q_patU V n a o w h 77 t = V 77 t := by
  unfold q_patU
  repeat first | rw [q_up_self] | rw [q_up_ne _ _ (by omega)] | rw [q_fill_ne _ _ _ (by omega)] | rw [q_addr_off _ _ _ (by omega)] | rw [q_addh_off _ _ _ (by omega)] | rw [q_subr_off _ _ _ (by omega)] | rw [q_subh_off _ _ _ (by omega)] | rw [q_cpy_off2 _ _ (by omega)] | rw [q_scp_off2 _ (by omega)] | rw [q_scp_ne _ (by omega)] | rw [q_cpyo_off2 _ (by omega)] | rw [q_cpyo_ne _ (by omega)]
theorem q_patU_75 (V : q_V) {n a o : Nat} (w h : Int32) (hn : n < 12) {r c : Nat} (hr : r < 6) (hc : c < 8) : q_patU V n a o w h 75 (48 * n + 8 * r + c) = V 72 (8 * r + c) := by
  unfold q_patU
  rw [q_up_ne _ _ (by omega), q_up_ne _ _ (by omega)]
  refine (if_pos ⟨rfl, by omega, by omega⟩ : q_cpyo _ 72 75 (48 * n) 48 75 (48 * n + 8 * r + c) = _).trans ?_
  rw [show 48 * n + 8 * r + c - 48 * n = 8 * r + c by omega]
  repeat first | rw [q_up_ne _ _ (by omega)] | rw [q_cpy_off2 _ _ (by omega)]
theorem q_patU_75n (V : q_V) {n a o : Nat} (w h : Int32) (hn : n < 12) {j : Nat} (hj : j < 48 * n) : q_patU V n a o w h 75 j = V 75 j := by
  unfold q_patU
  repeat first | rw [q_up_self] | rw [q_up_ne _ _ (by omega)] | rw [q_fill_ne _ _ _ (by omega)] | rw [q_addr_off _ _ _ (by omega)] | rw [q_addh_off _ _ _ (by omega)] | rw [q_subr_off _ _ _ (by omega)] | rw [q_subh_off _ _ _ (by omega)] | rw [q_cpy_off2 _ _ (by omega)] | rw [q_scp_off2 _ (by omega)] | rw [q_scp_ne _ (by omega)] | rw [q_cpyo_off2 _ (by omega)] | rw [q_cpyo_ne _ (by omega)]
theorem q_sim_pattern {V : q_V} {G : q_G} {n ns : Nat} (h : q_Rel V G n ns) (x : Int32) {k r : Int32} {V' V'' : q_V} {G' G'' : q_G} (hL : (∃ r V1 G1, (fun r V' G' => (q_c2 (q_ok 7 x) (n ≠ 12)) = 0 ∧ (nI n) = r ∧ (q_up (q_up (q_cpy (q_up (q_up V (27 + (1 + n)) 1 (V (27 + 0) 1)) (27 + (1 + n)) 2 (V (27 + 0) 2)) (48 + 0) (48 + (1 + n)) 48) 5 n x) 0 6 (nI (n + 1))) = V' ∧ G = G') r V1 G1 ∧ (0 : Int32) = k ∧ V1 = V' ∧ q_upL G1 18 0 r.toInt64 = G') ∨ (∃ E, (fun E V' G' => q_xc [xI, xS] (q_c2 (q_ok 7 x) (n ≠ 12)) E ∧ V = V' ∧ G = G') E V' G' ∧ nI (q_c2 (q_ok 7 x) (n ≠ 12)) = k)) (hM : (((q_c2 (q_ok 7 x) (n ≠ 12)) = 0 ∧ nI n = r ∧ ∃ o, q_morg (q_pat1 V' n (q_gw V 0) (q_gh V 0) x) n o ∧ q_up (q_pat1 V' n (q_gw V 0) (q_gh V 0) x) 77 n (nI o) = V'') ∨ ((q_c2 (q_ok 7 x) (n ≠ 12)) ≠ 0 ∧ q_up V' 19 0 (nI (q_c2 (q_ok 7 x) (n ≠ 12))) = V'')) ∧ G' = G'') : q_stepR k r.toInt64 V'' G'' := by
  obtain ⟨h1, h2, h3, h4, h5, h6, h7, h8, h9, h10⟩ := id h
  have hn := h4.2.2.1
  have hns := h6.2.2.1
  obtain ⟨hM, rfl⟩ := hM
  rcases hL with ⟨r1, V1, G1, ⟨hc, rfl, e9, rfl⟩, rfl, rfl, rfl⟩ | ⟨E, ⟨hx, rfl, rfl⟩, rfl⟩
  · rcases hM with ⟨-, rfl, o, hmo, e8⟩ | ⟨hn9, -⟩
    · obtain ⟨⟨a, ha, rfl⟩, hn12⟩ := q_c2_of hc
      have hm2 := q_morg_77 (nI o) hmo
      rw [e8] at hm2
      have hU : V'' = q_patU V n a o (nI (q_gw V 0)) (nI (q_gh V 0)) := by
        rw [← e8, ← e9]
        rfl
      clear e8 e9 hmo
      subst hU
      have hd := h3.1.2.2
      have hn' : n < 12 := by omega
      have h48 := q_gwh h3.1
      refine ⟨(q_patU_190 V _ _ hn').trans nI_0, fun _ => q_upL_self _ _ _ _, n + 1, ns, q_Rel_18 (V := _) ?_ _⟩
      exact q_pat_rel h hn' ha (fun i hi hi2 => ⟨q_patU_off (by omega) (by omega) (by omega) (by omega) (by omega) (by omega) (by omega) (by omega) (by omega) (by omega), q_patU_off (by omega) (by omega) (by omega) (by omega) (by omega) (by omega) (by omega) (by omega) (by omega) (by omega)⟩)
        (q_patU_g1 V _ _ hn') (q_patU_g2 V _ _ hn') (fun r c hr hc => q_patU_c V _ _ hn' (by have := q_ix hr hc; omega)) (q_patU_06 V _ _ hn') (q_patU_013 V _ _ hn') (q_patU_197 V _ _ hn') (q_patU_194 V _ _ hn') (q_patU_195 V _ _ hn') (q_patU_1920 V _ _ hn')
        ((q_patU_73 V _ _ hn').trans h3.1.1.symm) (fun t ht => q_patU_73n V _ _ hn' ht) ((q_patU_74 V _ _ hn').trans h3.1.2.1.symm) (fun t ht => q_patU_74n V _ _ hn' ht) (fun r c hr hc => q_patU_75 V _ _ hn' hr hc) (fun j hj => q_patU_75n V _ _ hn' hj)
        ((q_patU_76 V _ _ hn').trans (q_patU_5 V _ _ hn').symm) (fun t ht => q_patU_76n V _ _ hn' ht) (q_patU_5 V _ _ hn') (fun t ht => q_patU_5n V _ _ hn' ht) (q_patU_77 V _ _ hn') (fun t ht => q_patU_77n V _ _ hn' ht)
        (fun i i0 i5 i19 i73 i74 i75 i76 i77 hi => q_patU_off (by omega) (by omega) i0 i5 i19 i73 i74 i75 i76 i77) hm2
    · exact absurd hc hn9
  · rcases hM with ⟨h0, -⟩ | ⟨hn9, rfl⟩
    · have := hx.1; omega
    · exact ⟨q_up_self _ _ _ _, fun z => absurd z (q_xc_ne hx (by decide)), n, ns, q_Rel_sm h (q_sm_19 V _) rfl rfl⟩
