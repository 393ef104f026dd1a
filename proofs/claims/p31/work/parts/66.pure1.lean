theorem zR2_c {V U : q_V} {B B2 n c : Nat} (h : zR2 V B) (hB : B ≤ B2) (hn : n ≤ 12) (h7 : zR7 V n) (hc : c < 8) (h72 : U 72 (56 + c) = V 72 (56 + c)) (hs : U 2 c = V 2 c) (h74 : U 74 (7 + c) = V 74 (7 + c)) (h3 : U 3 c = V 3 c) (hh : ∀ p, p < 7 → U (20 + p) c = V (20 + p) c) (hb : ∀ b, b < 20 → q_cbelt U b (nI c) = q_cbelt V b (nI c)) : U 72 (56 + c) = U 2 c ∧ (∃ m, m ≤ B2 ∧ U 2 c = nI m) ∧ U 74 (7 + c) = U 3 c ∧ q_cbs U c 20 = U 3 c := by
  have e : q_cbs U c 20 = q_cbs V c 20 := q_cbs_congr (q_chs2_congr hs 7 hh) 20 hb
  rw [h72, hs, h74, h3, e]
  obtain ⟨a1, ⟨m, a2, a3⟩, a4⟩ := h c hc
  exact ⟨a1, ⟨m, by omega, a3⟩, a4⟩
theorem zt_z {lo : Nat} (h : lo < 41) : (nI lo - nI 20).toInt = (lo : Int) - 20 := pk_sub_toInt (by omega) (by omega)
theorem zt_sub {m lo : Nat} (hm : m ≤ 3000) (h : lo < 41) : (nI m - (nI lo - nI 20)).toInt = (m : Int) - ((lo : Int) - 20) := by
  rw [Int32.toInt_sub, zt_z h, nI_toInt (by omega)]
  exact Int.bmod_eq_of_le (by omega) (by omega)
theorem zt_add {m lo : Nat} (hm : m ≤ 3000) (h : lo < 41) : (nI m + (nI lo - nI 20)).toInt = (m : Int) + ((lo : Int) - 20) := by
  rw [Int32.toInt_add, zt_z h, nI_toInt (by omega)]
  exact Int.bmod_eq_of_le (by omega) (by omega)
theorem z_subz {m lo : Nat} (hm : m ≤ 3000) (hl : lo < 41) (h : ¬ nI m < nI lo - nI 20) : nI m - (nI lo - nI 20) = nI (m + 20 - lo) ∧ lo ≤ m + 20 := by
  rw [Int32.lt_iff_toInt_lt, zt_z hl, nI_toInt (by omega)] at h
  refine ⟨Int32.toInt_inj.mp ?_, by omega⟩
  rw [zt_sub hm hl, nI_toInt (by omega)]
  omega
theorem z_addz {m lo : Nat} (hm : m ≤ 3000) (hl : lo < 41) (h : 0 ≤ nI m + (nI lo - nI 20)) : nI m + (nI lo - nI 20) = nI (m + lo - 20) ∧ 20 ≤ m + lo := by
  rw [Int32.le_iff_toInt_le, zt_add hm hl] at h
  have h0 : (0 : Int32).toInt = 0 := by decide
  rw [h0] at h
  refine ⟨Int32.toInt_inj.mp ?_, by omega⟩
  rw [zt_add hm hl, nI_toInt (by omega)]
  omega
set_option maxHeartbeats 2000000 in
/-- beads are brought -/
theorem z_bring {V : q_V} {G : q_G} {B n ns g0 : Nat} {gp gs : Nat → Nat} (h : zRel V G B n ns g0 gp gs) (hB : B ≤ 1500) {wh col md : Nat} (hw : wh < 5) (hc : col < 8) (hmd : md ≤ 30) : zRel (q_up (q_up (q_up (q_up (V) (72) (8 * wh + col) (V 72 (8 * wh + col) + nI md)) (74) (7 + col) (V 74 (7 + col) + nI md)) (20 + wh) (col) (V (20 + wh) col + nI md)) (3) (col) (V 3 col + nI md)) (G) (B + 30) n ns g0 gp gs := by
  obtain ⟨h1, h2, h3, h4, h5, h6, h7, h8, h9, h10⟩ := h
  have hn6 := h4.2.2.1
  have hns4 := h6.2.2.1
  generalize hU : q_up (q_up (q_up (q_up (V) (72) (8 * wh + col) (V 72 (8 * wh + col) + nI md)) (74) (7 + col) (V 74 (7 + col) + nI md)) (20 + wh) (col) (V (20 + wh) col + nI md)) (3) (col) (V 3 col + nI md) = U
  have hch : ∀ a j, ¬ ((a = 72 ∧ j = 8 * wh + col) ∨ (a = 74 ∧ j = 7 + col) ∨ (a = 20 + wh ∧ j = col) ∨ (a = 3 ∧ j = col)) → U a j = V a j := by
    intro a j hn9
    rw [← hU]
    exact ((q_up_ne _ _ (by omega)).trans ((q_up_ne _ _ (by omega)).trans ((q_up_ne _ _ (by omega)).trans (q_up_ne _ _ (by omega)))))
  have e72 : U (72) (8 * wh + col) = V 72 (8 * wh + col) + nI md := by
    rw [← hU]
    exact ((q_up_ne _ _ (by omega)).trans ((q_up_ne _ _ (by omega)).trans ((q_up_ne _ _ (by omega)).trans (q_up_self _ _ _ _))))
  have e74 : U (74) (7 + col) = V 74 (7 + col) + nI md := by
    rw [← hU]
    exact ((q_up_ne _ _ (by omega)).trans ((q_up_ne _ _ (by omega)).trans (q_up_self _ _ _ _)))
  have e20 : U (20 + wh) (col) = V (20 + wh) col + nI md := by
    rw [← hU]
    exact ((q_up_ne _ _ (by omega)).trans (q_up_self _ _ _ _))
  have e3 : U (3) (col) = V 3 col + nI md := by
    rw [← hU]
    exact (q_up_self _ _ _ _)
  refine ⟨?_, ?_, zR3_fr h3 (hch _ _ (by omega)) ⟨funext fun j => hch _ _ (by omega), funext fun j => hch _ _ (by omega)⟩, zR4_fr h4 (hch _ _ (by omega)) (hch _ _ (by omega)) (fun pa hp => hch _ _ (by omega)) (fun pa hp => ⟨funext fun j => hch _ _ (by omega), funext fun j => hch _ _ (by omega)⟩), zR5_fr h5 (fun pa hp => hch _ _ (by omega)) (fun pa hp => hch _ _ (by omega)) (fun pa hp => hch _ _ (by omega)) (fun pa hp => ⟨funext fun j => hch _ _ (by omega), funext fun j => hch _ _ (by omega)⟩), zR6_fr h6 (hch _ _ (by omega)) (hch _ _ (by omega)) (fun t ht => hch _ _ (by omega)) (fun t ht => hch _ _ (by omega)) (fun t ht => hch _ _ (by omega)) (fun t ht => ⟨funext fun j => hch _ _ (by omega), funext fun j => hch _ _ (by omega)⟩), zR7_fr h7 (fun j hj => hch _ _ (by omega)) (fun b hb => hch _ _ (by omega)) (fun b hb => hch _ _ (by omega)), zR8_fr h8 (fun p hp => hch _ _ (by omega)) (fun p hp => hch _ _ (by omega)), zR9_fr h9 (fun j hj => hch _ _ (by omega)) (fun p hp => hch _ _ (by omega)) (fun p hp => hch _ _ (by omega)), h10⟩
  · skip
    intro p c hp hc2
    obtain ⟨a1, m, a2, a3⟩ := h1 p c hp hc2
    by_cases e : p = wh ∧ c = col
    · obtain ⟨rfl, rfl⟩ := e
      rw [e72, e20, a1]
      exact ⟨rfl, m + md, by omega, by rw [a3, nI_add]⟩
    · rw [hch 72 _ (by omega), hch (20 + p) c (by omega)]
      exact ⟨a1, m, by omega, a3⟩
  · skip
    intro c hc2
    by_cases e : c = col
    · subst e
      obtain ⟨a1, ⟨m, a2, a3⟩, a4, a5⟩ := h2 c hc2
      have e9 := q_cbs_0 (q_chs2_one (hch 2 c (by omega)) (fun p hp hp7 => hch (20 + p) c (by omega)) e20 7 (Nat.le_refl 7) (by omega)) (fun b hb => q_cbelt_sg (n := n) (by omega) (hch _ _ (by omega)) (zbelt h7 hb) (fun pa hp => ⟨funext fun j => hch _ _ (by omega), funext fun j => hch _ _ (by omega)⟩) _) 20 (Nat.le_refl 20)
      rw [e9, hch 72 _ (by omega), hch 2 _ (by omega), e74, e3, a4, a5]
      exact ⟨a1, ⟨m, by omega, a3⟩, rfl, rfl⟩
    · exact zR2_c h2 (by omega) (show n ≤ 12 by omega) h7 hc2 (hch _ _ (by omega)) (hch _ _ (by omega)) (hch _ _ (by omega)) (hch _ _ (by omega)) (fun p hp => hch _ _ (by omega)) (fun b hb => q_cbelt_sg (n := n) (by omega) (hch _ _ (by omega)) (zbelt h7 hb) (fun pa hp => ⟨funext fun j => hch _ _ (by omega), funext fun j => hch _ _ (by omega)⟩) _)
set_option maxHeartbeats 2000000 in
/-- beads are laid -/
theorem z_lay {V : q_V} {G : q_G} {B n ns g0 : Nat} {gp gs : Nat → Nat} (h : zRel V G B n ns g0 gp gs) (hB : B ≤ 1500) {wh col lo : Nat} (hw : wh < 5) (hc : col < 8) (hlo : lo < 41) (hz1 : ¬ V 72 (8 * wh + col) < (nI lo - nI 20)) (hz2 : 0 ≤ V 72 (56 + col) + (nI lo - nI 20)) : zRel (q_up (q_up (q_up (q_up (V) (72) (8 * wh + col) (V 72 (8 * wh + col) - (nI lo - nI 20))) (72) (56 + col) (V 72 (56 + col) + (nI lo - nI 20))) (20 + wh) (col) (V (20 + wh) col - (nI lo - nI 20))) (2) (col) (V 2 col + (nI lo - nI 20))) (G) (B + 30) n ns g0 gp gs := by
  obtain ⟨h1, h2, h3, h4, h5, h6, h7, h8, h9, h10⟩ := h
  have hn6 := h4.2.2.1
  have hns4 := h6.2.2.1
  generalize hU : q_up (q_up (q_up (q_up (V) (72) (8 * wh + col) (V 72 (8 * wh + col) - (nI lo - nI 20))) (72) (56 + col) (V 72 (56 + col) + (nI lo - nI 20))) (20 + wh) (col) (V (20 + wh) col - (nI lo - nI 20))) (2) (col) (V 2 col + (nI lo - nI 20)) = U
  have hch : ∀ a j, ¬ ((a = 72 ∧ j = 8 * wh + col) ∨ (a = 72 ∧ j = 56 + col) ∨ (a = 20 + wh ∧ j = col) ∨ (a = 2 ∧ j = col)) → U a j = V a j := by
    intro a j hn9
    rw [← hU]
    exact ((q_up_ne _ _ (by omega)).trans ((q_up_ne _ _ (by omega)).trans ((q_up_ne _ _ (by omega)).trans (q_up_ne _ _ (by omega)))))
  have e72 : U (72) (8 * wh + col) = V 72 (8 * wh + col) - (nI lo - nI 20) := by
    rw [← hU]
    exact ((q_up_ne _ _ (by omega)).trans ((q_up_ne _ _ (by omega)).trans ((q_up_ne _ _ (by omega)).trans (q_up_self _ _ _ _))))
  have e56 : U (72) (56 + col) = V 72 (56 + col) + (nI lo - nI 20) := by
    rw [← hU]
    exact ((q_up_ne _ _ (by omega)).trans ((q_up_ne _ _ (by omega)).trans (q_up_self _ _ _ _)))
  have e20 : U (20 + wh) (col) = V (20 + wh) col - (nI lo - nI 20) := by
    rw [← hU]
    exact ((q_up_ne _ _ (by omega)).trans (q_up_self _ _ _ _))
  have e2 : U (2) (col) = V 2 col + (nI lo - nI 20) := by
    rw [← hU]
    exact (q_up_self _ _ _ _)
  refine ⟨?_, ?_, zR3_fr h3 (hch _ _ (by omega)) ⟨funext fun j => hch _ _ (by omega), funext fun j => hch _ _ (by omega)⟩, zR4_fr h4 (hch _ _ (by omega)) (hch _ _ (by omega)) (fun pa hp => hch _ _ (by omega)) (fun pa hp => ⟨funext fun j => hch _ _ (by omega), funext fun j => hch _ _ (by omega)⟩), zR5_fr h5 (fun pa hp => hch _ _ (by omega)) (fun pa hp => hch _ _ (by omega)) (fun pa hp => hch _ _ (by omega)) (fun pa hp => ⟨funext fun j => hch _ _ (by omega), funext fun j => hch _ _ (by omega)⟩), zR6_fr h6 (hch _ _ (by omega)) (hch _ _ (by omega)) (fun t ht => hch _ _ (by omega)) (fun t ht => hch _ _ (by omega)) (fun t ht => hch _ _ (by omega)) (fun t ht => ⟨funext fun j => hch _ _ (by omega), funext fun j => hch _ _ (by omega)⟩), zR7_fr h7 (fun j hj => hch _ _ (by omega)) (fun b hb => hch _ _ (by omega)) (fun b hb => hch _ _ (by omega)), zR8_fr h8 (fun p hp => hch _ _ (by omega)) (fun p hp => hch _ _ (by omega)), zR9_fr h9 (fun j hj => hch _ _ (by omega)) (fun p hp => hch _ _ (by omega)) (fun p hp => hch _ _ (by omega)), h10⟩
  · skip
    intro p c hp hc2
    obtain ⟨a1, m, a2, a3⟩ := h1 p c hp hc2
    by_cases e : p = wh ∧ c = col
    · obtain ⟨rfl, rfl⟩ := e
      rw [e72, e20, a1, a3]
      rw [a1, a3] at hz1
      obtain ⟨q1, q2⟩ := z_subz (by omega) hlo hz1
      exact ⟨rfl, m + 20 - lo, by omega, q1⟩
    · rw [hch 72 _ (by omega), hch (20 + p) c (by omega)]
      exact ⟨a1, m, by omega, a3⟩
  · skip
    intro c hc2
    by_cases e : c = col
    · subst e
      obtain ⟨a1, ⟨m, a2, a3⟩, a4, a5⟩ := h2 c hc2
      have e8 : q_chs2 U c 7 = q_chs2 V c 7 := by
        have q1 := q_chs2_one (V := U) (U := q_up V 2 c (U 2 c)) (c := c) (a := wh) (x := (nI lo - nI 20)) ((q_up_self _ _ _ _)) (fun p hp hp7 => (q_up_ne _ _ (by omega)).trans (hch (20 + p) c (by omega)).symm) ((q_up_ne _ _ (by omega)).trans (by rw [e20, Int32.sub_add_cancel])) 7 (Nat.le_refl 7) (by omega)
        have q2 : ∀ k, q_chs2 (q_up V 2 c (V 2 c + (nI lo - nI 20))) c k = q_chs2 V c k + (nI lo - nI 20) := by
          intro k
          induction k with
          | zero => exact q_up_self _ _ _ _
          | succ k ih =>
            show q_chs2 _ c k + q_up V 2 c _ (20 + k) c = q_chs2 V c k + V (20 + k) c + (nI lo - nI 20)
            rw [ih, q_up_ne _ _ (by omega)]
            ac_rfl
        rw [e2, q2 7] at q1
        exact (Int32.add_left_inj (nI lo - nI 20)).mp q1.symm
      have e9 := q_cbs_congr e8 20 (fun b hb => q_cbelt_sg (n := n) (by omega) (hch _ _ (by omega)) (zbelt h7 hb) (fun pa hp => ⟨funext fun j => hch _ _ (by omega), funext fun j => hch _ _ (by omega)⟩) _)
      rw [a1] at hz2
      obtain ⟨q1, q2⟩ := z_addz (m := m) (by omega) hlo (by rw [← a3]; exact hz2)
      rw [e9, e56, e2, hch 74 _ (by omega), hch 3 _ (by omega), a1, a5]
      exact ⟨rfl, ⟨m + lo - 20, by omega, by rw [a3]; exact q1⟩, a4, rfl⟩
    · exact zR2_c h2 (by omega) (show n ≤ 12 by omega) h7 hc2 (hch _ _ (by omega)) (hch _ _ (by omega)) (hch _ _ (by omega)) (hch _ _ (by omega)) (fun p hp => hch _ _ (by omega)) (fun b hb => q_cbelt_sg (n := n) (by omega) (hch _ _ (by omega)) (zbelt h7 hb) (fun pa hp => ⟨funext fun j => hch _ _ (by omega), funext fun j => hch _ _ (by omega)⟩) _)
set_option maxHeartbeats 2000000 in
/-- a draft is begun -/
theorem z_draft {V : q_V} {G : q_G} {B n ns g0 : Nat} {gp gs : Nat → Nat} (h : zRel V G B n ns g0 gp gs) {x y : Nat} (hx : 1 ≤ x ∧ x ≤ 3) (hy : 1 ≤ y ∧ y ≤ 3) : zRel (q_fill (q_up (q_up (q_up (V) (18) (0) (nI (gemp x y))) (27 + 0) (1) (nI x)) (27 + 0) (2) (nI y)) (48 + 0) (0) 48) (G) (B + 30) n ns (gemp x y) gp gs := by
  obtain ⟨h1, h2, h3, h4, h5, h6, h7, h8, h9, h10⟩ := h
  have hn6 := h4.2.2.1
  have hns4 := h6.2.2.1
  generalize hU : q_fill (q_up (q_up (q_up (V) (18) (0) (nI (gemp x y))) (27 + 0) (1) (nI x)) (27 + 0) (2) (nI y)) (48 + 0) (0) 48 = U
  have hch : ∀ a j, ¬ ((a = 18 ∧ j = 0) ∨ (a = 27 + 0 ∧ j = 1) ∨ (a = 27 + 0 ∧ j = 2) ∨ (a = 48 + 0 ∧ j < 48)) → U a j = V a j := by
    intro a j hn9
    rw [← hU]
    exact ((if_neg (by omega)).trans ((q_up_ne _ _ (by omega)).trans ((q_up_ne _ _ (by omega)).trans (q_up_ne _ _ (by omega)))))
  have e18 : U (18) (0) = nI (gemp x y) := by
    rw [← hU]
    exact ((if_neg (by omega)).trans ((q_up_ne _ _ (by omega)).trans ((q_up_ne _ _ (by omega)).trans (q_up_self _ _ _ _))))
  have e1 : U (27 + 0) (1) = nI x := by
    rw [← hU]
    exact ((if_neg (by omega)).trans ((q_up_ne _ _ (by omega)).trans (q_up_self _ _ _ _)))
  have e2 : U (27 + 0) (2) = nI y := by
    rw [← hU]
    exact ((if_neg (by omega)).trans (q_up_self _ _ _ _))
  refine ⟨zR1_fr h1 (by omega) (fun j hj => hch _ _ (by omega)) (fun p c hp hc => hch _ _ (by omega)), zR2_fr h2 (by omega) (show n ≤ 12 by omega) h7 (fun c hc => hch _ _ (by omega)) (fun c hc => hch _ _ (by omega)) (fun c hc => hch _ _ (by omega)) (fun c hc => hch _ _ (by omega)) (fun p c hp hc => hch _ _ (by omega)) (fun b hb => hch _ _ (by omega)) (fun pa hp => ⟨funext fun j => hch _ _ (by omega), funext fun j => hch _ _ (by omega)⟩), ?_, zR4_fr h4 (hch _ _ (by omega)) (hch _ _ (by omega)) (fun pa hp => hch _ _ (by omega)) (fun pa hp => ⟨funext fun j => hch _ _ (by omega), funext fun j => hch _ _ (by omega)⟩), zR5_fr h5 (fun pa hp => hch _ _ (by omega)) (fun pa hp => hch _ _ (by omega)) (fun pa hp => hch _ _ (by omega)) (fun pa hp => ⟨funext fun j => hch _ _ (by omega), funext fun j => hch _ _ (by omega)⟩), zR6_fr h6 (hch _ _ (by omega)) (hch _ _ (by omega)) (fun t ht => hch _ _ (by omega)) (fun t ht => hch _ _ (by omega)) (fun t ht => hch _ _ (by omega)) (fun t ht => ⟨funext fun j => hch _ _ (by omega), funext fun j => hch _ _ (by omega)⟩), zR7_fr h7 (fun j hj => hch _ _ (by omega)) (fun b hb => hch _ _ (by omega)) (fun b hb => hch _ _ (by omega)), zR8_fr h8 (fun p hp => hch _ _ (by omega)) (fun p hp => hch _ _ (by omega)), zR9_fr h9 (fun j hj => hch _ _ (by omega)) (fun p hp => hch _ _ (by omega)) (fun p hp => hch _ _ (by omega)), h10⟩
  · skip
    obtain ⟨-, b1, b2, b3, b4⟩ := gemp_facts x (by omega) y (by omega)
    have h0 : ∀ u v, u < 3 → v < 3 → gat (gemp x y) u v = 0 := fun u v hu hv => b4 _ (by omega)
    refine ⟨e18, ⟨b1, by omega, by omega, by omega, by omega, fun u v hu hv _ => h0 u v hu hv⟩, ?_, fun u v hu hv => ?_⟩
    · rw [b2, b3]
      exact ⟨e1, e2, by omega, by omega, by omega, by omega⟩
    · rw [b2] at hu ⊢
      rw [b3] at hv
      rw [h0 u v (by omega) (by omega), ← hU]
      have hlt : v * x + u < 48 := by
        have := Nat.mul_le_mul (show v ≤ 2 by omega) (show x ≤ 3 by omega)
        omega
      exact if_pos ⟨rfl, hlt⟩
set_option maxHeartbeats 2000000 in
/-- a cell is painted -/
theorem z_bead {V : q_V} {G : q_G} {B n ns g0 : Nat} {gp gs : Nat → Nat} (h : zRel V G B n ns g0 gp gs) {cn ln z : Nat} (hcn : cn < gwd g0) (hln : ln < ghi g0) (hz : z < 8) : zRel (q_up (q_up (V) (18) (0) (nI (gset g0 (3 * ln + cn) z))) (48 + 0) (ln * gwd g0 + cn) (nI z)) (G) B n ns (gset g0 (3 * ln + cn) z) gp gs := by
  obtain ⟨h1, h2, h3, h4, h5, h6, h7, h8, h9, h10⟩ := h
  have hn6 := h4.2.2.1
  have hns4 := h6.2.2.1
  generalize hU : q_up (q_up (V) (18) (0) (nI (gset g0 (3 * ln + cn) z))) (48 + 0) (ln * gwd g0 + cn) (nI z) = U
  have hch : ∀ a j, ¬ ((a = 18 ∧ j = 0) ∨ (a = 48 + 0 ∧ j = ln * gwd g0 + cn)) → U a j = V a j := by
    intro a j hn9
    rw [← hU]
    exact ((q_up_ne _ _ (by omega)).trans (q_up_ne _ _ (by omega)))
  have e18 : U (18) (0) = nI (gset g0 (3 * ln + cn) z) := by
    rw [← hU]
    exact ((q_up_ne _ _ (by omega)).trans (q_up_self _ _ _ _))
  have e48 : U (48 + 0) (ln * gwd g0 + cn) = nI z := by
    rw [← hU]
    exact (q_up_self _ _ _ _)
  refine ⟨zR1_fr h1 (by omega) (fun j hj => hch _ _ (by omega)) (fun p c hp hc => hch _ _ (by omega)), zR2_fr h2 (by omega) (show n ≤ 12 by omega) h7 (fun c hc => hch _ _ (by omega)) (fun c hc => hch _ _ (by omega)) (fun c hc => hch _ _ (by omega)) (fun c hc => hch _ _ (by omega)) (fun p c hp hc => hch _ _ (by omega)) (fun b hb => hch _ _ (by omega)) (fun pa hp => ⟨funext fun j => hch _ _ (by omega), funext fun j => hch _ _ (by omega)⟩), ?_, zR4_fr h4 (hch _ _ (by omega)) (hch _ _ (by omega)) (fun pa hp => hch _ _ (by omega)) (fun pa hp => ⟨funext fun j => hch _ _ (by omega), funext fun j => hch _ _ (by omega)⟩), zR5_fr h5 (fun pa hp => hch _ _ (by omega)) (fun pa hp => hch _ _ (by omega)) (fun pa hp => hch _ _ (by omega)) (fun pa hp => ⟨funext fun j => hch _ _ (by omega), funext fun j => hch _ _ (by omega)⟩), zR6_fr h6 (hch _ _ (by omega)) (hch _ _ (by omega)) (fun t ht => hch _ _ (by omega)) (fun t ht => hch _ _ (by omega)) (fun t ht => hch _ _ (by omega)) (fun t ht => ⟨funext fun j => hch _ _ (by omega), funext fun j => hch _ _ (by omega)⟩), zR7_fr h7 (fun j hj => hch _ _ (by omega)) (fun b hb => hch _ _ (by omega)) (fun b hb => hch _ _ (by omega)), zR8_fr h8 (fun p hp => hch _ _ (by omega)) (fun p hp => hch _ _ (by omega)), zR9_fr h9 (fun j hj => hch _ _ (by omega)) (fun p hp => hch _ _ (by omega)) (fun p hp => hch _ _ (by omega)), h10⟩
  · skip
    obtain ⟨q1, ⟨g1, g2, g3, g4, g5, g6⟩, q3, q4⟩ := h3
    have w1 : gwd (gset g0 (3 * ln + cn) z) = gwd g0 := gset_gwd (by omega) hz
    have w2 : ghi (gset g0 (3 * ln + cn) z) = ghi g0 := gset_ghi (by omega) hz
    refine ⟨e18, ⟨gset_lt g1 (by omega) hz, by omega, by omega, by omega, by omega, fun u v hu hv hn => ?_⟩, ?_, fun u v hu hv => ?_⟩
    · rw [w1, w2] at hn
      rw [gset_gat (by omega) (by omega) hz hu hv, if_neg (fun e => hn (by rw [e.1, e.2]; exact ⟨hcn, hln⟩))]
      exact g6 u v hu hv hn
    · rw [w1, w2]
      unfold q_gok
      rw [hch (27 + 0) 1 (by omega), hch (27 + 0) 2 (by omega)]
      exact q3
    · rw [w1] at hu ⊢
      rw [w2] at hv
      rw [gset_gat (by omega) (by omega) hz (by omega) (by omega)]
      by_cases e : u = cn ∧ v = ln
      · rw [if_pos e, e.1, e.2]
        exact e48
      · rw [if_neg e, hch (48 + 0) _ (fun q => ?_)]
        · exact q4 u v hu hv
        · rcases q with q | q
          · omega
          · have q5 := q.2
            have q6 : v = ln := by
              rcases Nat.lt_trichotomy v ln with r | r | r
              · have := Nat.mul_le_mul_right (gwd g0) (show v + 1 ≤ ln from r)
                rw [Nat.add_mul, Nat.one_mul] at this
                omega
              · exact r
              · have := Nat.mul_le_mul_right (gwd g0) (show ln + 1 ≤ v from r)
                rw [Nat.add_mul, Nat.one_mul] at this
                omega
            subst q6
            exact e ⟨by omega, rfl⟩
