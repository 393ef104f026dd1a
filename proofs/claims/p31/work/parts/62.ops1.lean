/-! the program's methods where they can't throw, as grids and same ask them -/
section ZOPS
variable (l : Launch) (σ : q_E) (V : q_V) (G : q_G)
theorem zM_stands (hlf : l.stackTraces = false) {n ns : Nat} {gp gs : Nat → Nat} (h4 : zR4 V n gp) (h6 : zR6 V ns gs) {t pa : Nat} (ht : t < ns) (hp : pa < n) : q_Mi l yX2_stands wsX2_stands rX2_stands σ [.ref (σ.2.1 0), .int (nI t), .int (nI pa)] V G (fun r V' G' => nI (gstd (gs t) (gp pa)) = r ∧ V = V' ∧ G = G') 6 36 := by
  have b1 := h4.2.2.1
  have b2 := h6.2.2.1
  refine q_Mi_X (kX2_stands l σ V G hlf h4.1 (by omega) (zcp h4) h6.1 (by omega) (zcs h6) (nI t) (nI pa)) (fun E V' G' z => q_xc_0 (q_c1_0 ⟨q_ok_nI ht, q_ok_nI hp⟩) z.1) (fun r V' G' z => ?_)
  obtain ⟨-, e, e2, e3⟩ := z
  rw [q_n_nI (n := pa) (by omega), q_n_nI (n := t) (by omega), zc_places h4 h6 hp ht] at e
  exact ⟨e, e2, e3⟩
theorem zM_symmetries (hlf : l.stackTraces = false) {n : Nat} {gp : Nat → Nat} (h4 : zR4 V n gp) {pa : Nat} (hp : pa < n) : q_Mi l yX2_symmetries wsX2_symmetries rX2_symmetries σ [.ref (σ.2.1 0), .int (nI pa)] V G (fun r V' G' => nI (q_b (gexc (gp pa) = gp pa) 1 + q_b (gexc (gtrn (gtrn (gp pa))) = gp pa) 2 + q_b (gtrn (gtrn (gp pa)) = gp pa) 4 + q_b (gtrn (gp pa) = gp pa) 8) = r ∧ V = V' ∧ G = G') 6 36 := by
  have b1 := h4.2.2.1
  have hg := (h4.2.2.2 pa hp).2.1
  refine q_Mi_X (kX2_symmetries l σ V G hlf h4.1 (by omega) (zcp h4) (nI pa)) (fun E V' G' z => q_xc_0 (q_c1_0 (q_ok_nI hp)) z.1) (fun r V' G' z => ?_)
  obtain ⟨-, e, e2, e3⟩ := z
  rw [q_n_nI (n := pa) (by omega), q_b_congr (zc_alk h4 hp hp (show 4 < 8 by omega)), q_b_congr (zc_alk h4 hp hp (show 6 < 8 by omega)), q_b_congr (zc_alk h4 hp hp (show 2 < 8 by omega)), q_b_congr (zc_alk h4 hp hp (show 1 < 8 by omega)), gimg_4, gimg_6 hg, gimg_2, gimg_1] at e
  exact ⟨e, e2, e3⟩
theorem zM_origin (hlf : l.stackTraces = false) {n : Nat} {gp : Nat → Nat} (h4 : zR4 V n gp) (h5 : zR5 V n) {pa : Nat} (hp : pa < n) : q_Mi l yX2_origin wsX2_origin rX2_origin σ [.ref (σ.2.1 0), .int (nI pa)] V G (fun r V' G' => V 69 (3 * pa + 2) = r ∧ V = V' ∧ G = G') 6 36 := by
  have b1 := h4.2.2.1
  refine q_Mi_X (kX2_origin l σ V G hlf h4.1 (by omega) (zcp h4) (nI pa)) (fun E V' G' z => q_xc_0 (q_c1_0 (q_ok_nI hp)) z.1) (fun r V' G' z => ?_)
  obtain ⟨-, ⟨o, e, e1⟩, e2, e3⟩ := z
  rw [q_n_nI (n := pa) (by omega)] at e
  obtain ⟨-, -, o2, f1, f2⟩ := h5 pa hp
  rw [f2, q_corg_one f1 e]
  exact ⟨e1, e2, e3⟩
theorem zM_needs (hlf : l.stackTraces = false) {n : Nat} {gp : Nat → Nat} (h4 : zR4 V n gp) {pa col : Nat} (hp : pa < n) (hc : col < 8) : q_Mi l yX2_needs wsX2_needs rX2_needs σ [.ref (σ.2.1 0), .int (nI pa), .int (nI col)] V G (fun r V' G' => nI (gneed (gp pa) col) = r ∧ V = V' ∧ G = G') 6 36 := by
  have b1 := h4.2.2.1
  refine q_Mi_X (kX2_needs l σ V G hlf h4.1 (by omega) (zcp h4) (nI pa) (nI col)) (fun E V' G' z => q_xc_0 (q_c1_0 ⟨q_ok_nI hp, q_ok_nI hc⟩) z.1) (fun r V' G' z => ?_)
  obtain ⟨-, e, e2, e3⟩ := z
  rw [q_n_nI (n := pa) (by omega), zc_needs h4 hp hc] at e
  exact ⟨e, e2, e3⟩
theorem zM_story (hlf : l.stackTraces = false) {n ns : Nat} {gp gs : Nat → Nat} (h4 : zR4 V n gp) (h6 : zR6 V ns gs) {pa : Nat} (hp : pa < n) : q_Mi l yX2_story wsX2_story rX2_story σ [.ref (σ.2.1 0), .int (nI pa)] V G (fun r V' G' => q_cstory V pa ns = r ∧ V = V' ∧ G = G') 6 36 := by
  have b1 := h4.2.2.1
  have b2 := h6.2.2.1
  refine q_Mi_X (kX2_story l σ V G hlf h4.1 (by omega) (zcp h4) h6.1 (by omega) (zcs h6) (nI pa)) (fun E V' G' z => q_xc_0 (q_c1_0 (q_ok_nI hp)) z.1) (fun r V' G' z => ?_)
  obtain ⟨-, e, e2, e3⟩ := z
  rw [q_n_nI (n := pa) (by omega)] at e
  exact ⟨e, e2, e3⟩
theorem zM_patterns {n : Nat} {gp : Nat → Nat} (h4 : zR4 V n gp) : q_Mi l yX2_patterns wsX2_patterns rX2_patterns σ [.ref (σ.2.1 0)] V G (fun r V' G' => nI n = r ∧ V = V' ∧ G = G') 0 0 :=
  q_Mi_imp (kX2_patterns l σ V G) (fun r V' G' z => ⟨h4.1.symm.trans z.1, z.2⟩)
theorem zM_hand (hlf : l.stackTraces = false) {B : Nat} (h1 : zR1 V B) {k col : Nat} (hk : k < 7) (hc : col < 8) : q_Mi l yX2_hand wsX2_hand rX2_hand σ [.ref (σ.2.1 0), .int (nI k), .int (nI col)] V G (fun r V' G' => V 72 (8 * k + col) = r ∧ V = V' ∧ G = G') 6 36 := by
  refine q_Mi_X (kX2_hand l σ V G hlf (nI k) (nI col)) (fun E V' G' z => q_xc_0 (q_c1_0 ⟨q_ok_nI hk, q_ok_nI hc⟩) z.1) (fun r V' G' z => ?_)
  obtain ⟨-, e, e2, e3⟩ := z
  rw [q_n_nI (n := k) (by omega), q_n_nI (n := col) (by omega)] at e
  exact ⟨(h1 k col hk hc).1.trans e, e2, e3⟩
theorem zM_beads (hlf : l.stackTraces = false) {n : Nat} {gp : Nat → Nat} (h4 : zR4 V n gp) (h7 : zR7 V n) {col : Nat} (hc : col < 8) : q_Mi l yX2_beads wsX2_beads rX2_beads σ [.ref (σ.2.1 0), .int (nI col)] V G (fun r V' G' => q_cbs V col 20 = r ∧ V = V' ∧ G = G') 6 36 := by
  have b1 := h4.2.2.1
  refine q_Mi_X (kX2_beads l σ V G hlf (show n ≤ 12 by omega) (zcp h4) (zcb h7) (nI col)) (fun E V' G' z => q_xc_0 (q_c1_0 (q_ok_nI hc)) z.1) (fun r V' G' z => ?_)
  obtain ⟨-, e, e2, e3⟩ := z
  rw [q_n_nI (n := col) (by omega)] at e
  exact ⟨e, e2, e3⟩
theorem zM_brought (hlf : l.stackTraces = false) {B : Nat} (h2 : zR2 V B) {col : Nat} (hc : col < 8) : q_Mi l yX2_brought wsX2_brought rX2_brought σ [.ref (σ.2.1 0), .int (nI col)] V G (fun r V' G' => V 74 (7 + col) = r ∧ V = V' ∧ G = G') 6 36 := by
  refine q_Mi_X (kX2_brought l σ V G hlf (nI col)) (fun E V' G' z => q_xc_0 (q_c1_0 (q_ok_nI hc)) z.1) (fun r V' G' z => ?_)
  obtain ⟨-, e, e2, e3⟩ := z
  rw [q_n_nI (n := col) (by omega)] at e
  exact ⟨(h2 col hc).2.2.1.trans e, e2, e3⟩
theorem zM_credits (hlf : l.stackTraces = false) (h8 : zR8 V) {k : Nat} (hk : k < 7) : q_Mi l yX2_credits wsX2_credits rX2_credits σ [.ref (σ.2.1 0), .int (nI k)] V G (fun r V' G' => V 74 k = r ∧ V = V' ∧ G = G') 6 36 := by
  refine q_Mi_X (kX2_credits l σ V G hlf (nI k)) (fun E V' G' z => q_xc_0 (q_c1_0 (q_ok_nI hk)) z.1) (fun r V' G' z => ?_)
  obtain ⟨-, e, e2, e3⟩ := z
  rw [q_n_nI (n := k) (by omega)] at e
  exact ⟨(h8 k hk).trans e, e2, e3⟩
theorem zM_ranked (hlf : l.stackTraces = false) (h10 : zR10 G) {k t : Nat} (hk : k < 7) (ht : t = q_rk (G 19) k) : q_Mi l yX2_ranked wsX2_ranked rX2_ranked σ [.ref (σ.2.1 0), .int (nI t)] V G (fun r V' G' => nI k = r ∧ V = V' ∧ G = G') 6 36 := by
  have ht2 : t = q_rk (G 12) k := ht.trans (q_rk_congr h10 hk)
  have ht7 : t < 7 := by rw [ht2]; exact q_rk_7 _ hk
  refine q_Mi_X (kX2_ranked l σ V G hlf (nI t)) (fun E V' G' z => q_xc_0 (q_c1_0 (q_ok_nI ht7)) z.1) (fun r V' G' z => ?_)
  obtain ⟨-, ⟨j, hj, a1, a2, a3⟩, e2, e3⟩ := z
  have ej : j = k := by
    rcases Nat.lt_trichotomy j k with q | q | q
    · have e := a2 (by omega)
      have r7 := q_rk_7 (G 12) (show j < 7 by omega)
      exact q_rk_inj (G 12) (by omega) hk ((q_nI_inj e (by omega) (by omega)).trans ht2)
    · exact q
    · exact absurd (by rw [ht2]) (a1 k q)
  rw [ej] at a3
  exact ⟨a3, e2, e3⟩
theorem zM_owner (hlf : l.stackTraces = false) {n : Nat} (h7 : zR7 V n) {k : Nat} (hk : k < 6) (hb : ¬ V 71 (2 * k) < 0) : q_Mi l yX2_owner wsX2_owner rX2_owner σ [.ref (σ.2.1 0), .int (nI k)] V G (fun r V' G' => V 71 (2 * k + 1) = r ∧ V = V' ∧ G = G') 6 36 := by
  obtain ⟨b1, b2, -⟩ := h7.1 k hk
  have hib : q_cisb V (nI k) := ⟨k, by omega, rfl, fun z => hb (by rw [b1, z]; decide)⟩
  refine q_Mi_X (kX2_owner l σ V G hlf (nI k)) (fun E V' G' z => q_xc_0 (q_c1_0 hib) z.1) (fun r V' G' z => ?_)
  obtain ⟨-, e, e2, e3⟩ := z
  rw [q_n_nI (n := k) (by omega)] at e
  exact ⟨b2.trans e, e2, e3⟩
theorem z_nib {n : Nat} {V : q_V} (hn : n ≤ 6) (h7 : zR7 V n) {k : Nat} (hk : k < 6) (hb : V 71 (2 * k) < 0) : ¬ q_cisb V (nI k) := by
  rintro ⟨b, hb2, e, hb3⟩
  obtain rfl : k = b := q_nI_inj e (by omega) (by omega)
  obtain ⟨b1, -, b3⟩ := h7.1 k hk
  rcases b3 with z | ⟨pa, hp, z⟩
  · exact hb3 z
  · rw [b1, z] at hb
    exact nI_pos (by omega) hb
theorem zM_noOwner (hlf : l.stackTraces = false) {n : Nat} (hn : n ≤ 6) (h7 : zR7 V n) {k : Nat} (hk : k < 6) (hb : V 71 (2 * k) < 0) (x y : Int32) : q_Mi l yL_refused wsL_refused rL_refused_3 σ [.ref (σ.2.1 0), .int (nI 3), .int (nI k), .int x, .int y] V G (fun r V' G' => nI 1 = r ∧ V = V' ∧ G = G') 6 36 :=
  kL_refused_3 l σ V G hlf (nI k) x y (q_c1_1 (z_nib hn h7 hk hb))
/-! the chain -/
theorem zM_chain (h9 : zR9 V) : q_Mi l yX2_chain wsX2_chain rX2_chain σ [.ref (σ.2.1 0)] V G (fun r V' G' => nI (q_best (q_crd V) (q_cgt V)).length = r ∧ q_boff V V' ∧ G = G') 0 0 := kX2_chain l σ V G (zw2 h9)
theorem zM_chainByOrders (h9 : zR9 V) : q_Mi l yX2_chainByOrders wsX2_chainByOrders rX2_chainByOrders σ [.ref (σ.2.1 0)] V G (fun r V' G' => nI (q_best (q_crd V) (q_cgt V)).length = r ∧ q_boff V V' ∧ G = G') 0 0 := kX2_chainByOrders l σ V G (zw2 h9)
theorem zM_chainAt (hlf : l.stackTraces = false) (h9 : zR9 V) {k : Nat} (hk : k < (q_best (q_crd V) (q_cgt V)).length) : q_Mi l yX2_chainAt wsX2_chainAt rX2_chainAt σ [.ref (σ.2.1 0), .int (nI k)] V G (fun r V' G' => nI ((q_best (q_crd V) (q_cgt V)).getD k 0) = r ∧ q_boff V V' ∧ G = G') 6 36 := by
  have b7 := q_best_len (q_crd V) (q_cgt V)
  refine q_Mi_X (kX2_chainAt l σ V G hlf (zw2 h9) (nI k)) (fun E V' G' z => q_xc_0 (q_c1_0 (q_ok_nI hk)) z.1) (fun r V' G' z => ?_)
  obtain ⟨-, e, e2, e3⟩ := z
  rw [q_n_nI (n := k) (by omega)] at e
  exact ⟨e, e2, e3⟩
theorem zM_noChainAt (hlf : l.stackTraces = false) (h9 : zR9 V) {k : Nat} (hk : k = (q_best (q_crd V) (q_cgt V)).length) (x y : Int32) : q_Mi l yL_refused wsL_refused rL_refused_4 σ [.ref (σ.2.1 0), .int (nI 4), .int (nI k), .int x, .int y] V G (fun r V' G' => nI 1 = r ∧ q_boff V V' ∧ G = G') 6 36 := by
  have b7 := q_best_len (q_crd V) (q_cgt V)
  refine kL_refused_4 l σ V G hlf (zw2 h9) (nI k) x y (q_c1_1 ?_)
  rintro ⟨j, hj, e⟩
  have := q_nI_inj e (by omega) (by omega)
  omega
/-- the law's chain is the program's -/
theorem z_law_best {V : q_V} {B : Nat} (h1 : zR1 V B) (hB : B < 2 ^ 31) (h9 : zR9 V) {rr : Nat} (h : zfound (z_rd V) (z_gt V) rr) : zre (q_best (q_crd V) (q_cgt V)) rr := by
  refine z_found (rl := z_rd V) (gl := z_gt V) (fun a ha => ?_) (fun a ha ha7 z => ?_) (fun a b ha hb hra hrb => ?_) h
  · obtain ⟨e1, e2⟩ := h9 a (by omega)
    unfold z_rd q_crd
    rw [e1]
    rcases e2 with e | ⟨-, -, ⟨j, hj, e⟩, -⟩
    · rw [e]
      exact ⟨fun z => absurd (by decide) z.1, fun z => absurd rfl z.1⟩
    · rw [e, q_n_nI (by omega), (h1 a j (by omega) hj).1]
      exact ⟨fun z => ⟨q_nI_ne1 (by omega), z.2⟩, fun z => ⟨nI_pos (by omega), z.2⟩⟩
  · obtain ⟨-, e2⟩ := h9 a ha7
    rcases e2 with e | ⟨e, -⟩
    · exact z.1 e
    · omega
  · unfold z_gt q_cgt
    obtain ⟨-, e2⟩ := h9 a (by omega)
    obtain ⟨e3, -⟩ := h9 b (by omega)
    obtain ⟨-, e4, -⟩ := e2.resolve_left hra.1
    rw [e4, e3]
theorem zM_lawChain {B : Nat} (h1 : zR1 V B) (hB : B < 2 ^ 31) (h9 : zR9 V) : q_Mi l yL_chain wsL_chain rL_chain σ [.ref (σ.2.1 73), .ref (σ.2.1 72)] V G (fun r V' G' => (∃ rr, zre (q_best (q_crd V) (q_cgt V)) rr ∧ nI rr = r) ∧ V = V' ∧ G = G') 0 0 := by
  refine q_Mi_imp (kL_chain l σ V G (fun a ha => ?_)) (fun r V' G' z => ?_)
  · obtain ⟨e1, e2⟩ := h9 a (by omega)
    rw [e1]
    exact e2.imp id (fun z => z.2.2.1)
  · obtain ⟨⟨rr, e, e1⟩, e2⟩ := z
    exact ⟨⟨rr, z_law_best h1 hB h9 e, e1⟩, e2⟩
end ZOPS
theorem zre_31 {b : List Nat} {rr : Nat} (h : zre b rr) (h7 : b.length ≤ 7) : rr < 2 ^ 31 := Nat.lt_of_lt_of_le h.1 (Nat.pow_le_pow_right (by decide) (by omega))
theorem zre_0 {b : List Nat} {rr k : Nat} (h : zre b rr) (hk : k ≤ b.length) : rr / 2 ^ (3 * k) = 0 ↔ k = b.length := by
  constructor
  · intro e
    rcases Nat.lt_or_ge k b.length with q | q
    · have := h.2 k q
      rw [e, Nat.zero_mod] at this
      omega
    · omega
  · rintro rfl
    exact Nat.div_eq_of_lt h.1
