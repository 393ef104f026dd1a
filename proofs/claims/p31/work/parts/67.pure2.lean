def z_pp (gp : Nat → Nat) (n g0 : Nat) : Nat → Nat := fun k => if k = n then g0 else gp k
theorem z_pp_n (gp : Nat → Nat) (n g0 : Nat) : z_pp gp n g0 n = g0 := if_pos rfl
theorem z_pp_o (gp : Nat → Nat) {n g0 k : Nat} (h : k ≠ n) : z_pp gp n g0 k = gp k := if_neg h
/-- the pattern k is alike to an image of g0 -/
def z_hit (gp : Nat → Nat) (g0 k : Nat) : Prop := ∃ i, i < 4 ∧ (gtk i g0 = gp k ∨ gtk i (gexc g0) = gp k)
/-- o is the first of those from j to n, else n -/
def z_or (gp : Nat → Nat) (g0 n j o : Nat) : Prop := (o = n ∨ (j ≤ o ∧ o < n ∧ z_hit gp g0 o)) ∧ ∀ k, j ≤ k → k < o → k < n → ¬ z_hit gp g0 k
theorem zR7_mono {V : q_V} {n n2 : Nat} (h : zR7 V n) (hn : n ≤ n2) : zR7 V n2 :=
  ⟨fun b hb => by
    obtain ⟨a1, a2, a3⟩ := h.1 b hb
    exact ⟨a1, a2, a3.imp id (fun ⟨pa, hp, e⟩ => ⟨pa, by omega, e⟩)⟩, h.2⟩
theorem q_subr_cong {V : q_V} {a : Nat} {f g : Nat → Int32} {n : Nat} (h : ∀ k, k < n → f k = g k) : q_subr V a f n = q_subr V a g n := by
  funext i j
  unfold q_subr
  by_cases e : i = 20 + a ∧ j < n
  · rw [if_pos e, if_pos e, h j e.2]
  · rw [if_neg e, if_neg e]
theorem q_addr_cong {V : q_V} {a : Nat} {f g : Nat → Int32} {n : Nat} (h : ∀ k, k < n → f k = g k) : q_addr V a f n = q_addr V a g n := by
  funext i j
  unfold q_addr
  by_cases e : i = 20 + a ∧ j < n
  · rw [if_pos e, if_pos e, h j e.2]
  · rw [if_neg e, if_neg e]
set_option maxHeartbeats 2000000 in
/-- a pattern is told -/
theorem z_pattern {V : q_V} {G : q_G} {B n ns g0 : Nat} {gp gs : Nat → Nat} (h : zRel V G B n ns g0 gp gs) (hn : n < 6) {wh o : Nat} (hw : wh < 5) (ho : z_or gp g0 n 0 o) : zRel (q_up (q_up (q_cpy (q_up (q_up (q_up (q_up (q_up (q_up (V) (69) (3 * n) (nI g0)) (69) (3 * n + 1) (nI wh)) (69) (3 * n + 2) (nI o)) (18) (1) (nI (n + 1))) (27 + (1 + n)) (1) (nI (gwd g0))) (27 + (1 + n)) (2) (nI (ghi g0))) (48 + 0) (48 + (1 + n)) 48) (5) (n) (nI wh)) (0) (6) (nI (n + 1))) (G) (B + 30) (n + 1) ns g0 (z_pp gp n g0) gs := by
  obtain ⟨h1, h2, h3, h4, h5, h6, h7, h8, h9, h10⟩ := h
  have hn6 := h4.2.2.1
  have hns4 := h6.2.2.1
  generalize hU : q_up (q_up (q_cpy (q_up (q_up (q_up (q_up (q_up (q_up (V) (69) (3 * n) (nI g0)) (69) (3 * n + 1) (nI wh)) (69) (3 * n + 2) (nI o)) (18) (1) (nI (n + 1))) (27 + (1 + n)) (1) (nI (gwd g0))) (27 + (1 + n)) (2) (nI (ghi g0))) (48 + 0) (48 + (1 + n)) 48) (5) (n) (nI wh)) (0) (6) (nI (n + 1)) = U
  have hch : ∀ a j, ¬ ((a = 69 ∧ j = 3 * n) ∨ (a = 69 ∧ j = 3 * n + 1) ∨ (a = 69 ∧ j = 3 * n + 2) ∨ (a = 18 ∧ j = 1) ∨ (a = 27 + (1 + n) ∧ j = 1) ∨ (a = 27 + (1 + n) ∧ j = 2) ∨ (a = 48 + (1 + n) ∧ j < 48) ∨ (a = 5 ∧ j = n) ∨ (a = 0 ∧ j = 6)) → U a j = V a j := by
    intro a j hn9
    rw [← hU]
    exact ((q_up_ne _ _ (by omega)).trans ((q_up_ne _ _ (by omega)).trans ((if_neg (by omega)).trans ((q_up_ne _ _ (by omega)).trans ((q_up_ne _ _ (by omega)).trans ((q_up_ne _ _ (by omega)).trans ((q_up_ne _ _ (by omega)).trans ((q_up_ne _ _ (by omega)).trans (q_up_ne _ _ (by omega))))))))))
  have e06 : U (0) (6) = nI (n + 1) := by
    rw [← hU]
    exact (q_up_self _ _ _ _)
  have e5 : U (5) (n) = nI wh := by
    rw [← hU]
    exact ((q_up_ne _ _ (by omega)).trans (q_up_self _ _ _ _))
  have e690 : U (69) (3 * n) = nI g0 := by
    rw [← hU]
    exact ((q_up_ne _ _ (by omega)).trans ((q_up_ne _ _ (by omega)).trans ((if_neg (by omega)).trans ((q_up_ne _ _ (by omega)).trans ((q_up_ne _ _ (by omega)).trans ((q_up_ne _ _ (by omega)).trans ((q_up_ne _ _ (by omega)).trans ((q_up_ne _ _ (by omega)).trans (q_up_self _ _ _ _)))))))))
  have e691 : U (69) (3 * n + 1) = nI wh := by
    rw [← hU]
    exact ((q_up_ne _ _ (by omega)).trans ((q_up_ne _ _ (by omega)).trans ((if_neg (by omega)).trans ((q_up_ne _ _ (by omega)).trans ((q_up_ne _ _ (by omega)).trans ((q_up_ne _ _ (by omega)).trans ((q_up_ne _ _ (by omega)).trans (q_up_self _ _ _ _))))))))
  have e692 : U (69) (3 * n + 2) = nI o := by
    rw [← hU]
    exact ((q_up_ne _ _ (by omega)).trans ((q_up_ne _ _ (by omega)).trans ((if_neg (by omega)).trans ((q_up_ne _ _ (by omega)).trans ((q_up_ne _ _ (by omega)).trans ((q_up_ne _ _ (by omega)).trans (q_up_self _ _ _ _)))))))
  have e18 : U (18) (1) = nI (n + 1) := by
    rw [← hU]
    exact ((q_up_ne _ _ (by omega)).trans ((q_up_ne _ _ (by omega)).trans ((if_neg (by omega)).trans ((q_up_ne _ _ (by omega)).trans ((q_up_ne _ _ (by omega)).trans (q_up_self _ _ _ _))))))
  have e1 : U (27 + (1 + n)) (1) = nI (gwd g0) := by
    rw [← hU]
    exact ((q_up_ne _ _ (by omega)).trans ((q_up_ne _ _ (by omega)).trans ((if_neg (by omega)).trans ((q_up_ne _ _ (by omega)).trans (q_up_self _ _ _ _)))))
  have e2 : U (27 + (1 + n)) (2) = nI (ghi g0) := by
    rw [← hU]
    exact ((q_up_ne _ _ (by omega)).trans ((q_up_ne _ _ (by omega)).trans ((if_neg (by omega)).trans (q_up_self _ _ _ _))))
  have ecp : ∀ j, j < 48 → U (48 + (1 + n)) j = V (48 + 0) j := by
    intro j hj
    rw [← hU]
    exact (q_up_ne _ _ (by omega)).trans ((q_up_ne _ _ (by omega)).trans ((if_pos ⟨rfl, hj⟩).trans ((q_up_ne _ _ (by omega)).trans ((q_up_ne _ _ (by omega)).trans ((q_up_ne _ _ (by omega)).trans ((q_up_ne _ _ (by omega)).trans ((q_up_ne _ _ (by omega)).trans (q_up_ne _ _ (by omega)))))))))
  have hg9 : gis U (1 + n) g0 := by
    obtain ⟨q1, q2, q3⟩ := h3.2
    refine ⟨q1, ⟨e1, e2, q2.2.2⟩, fun u v hu hv => ?_⟩
    have hlt : v * gwd g0 + u < 48 := by
      have := q_ix hv hu
      have := q_gwh q2
      omega
    rw [ecp _ hlt]
    exact q3 u v hu hv
  have r4 : zR4 U (n + 1) (z_pp gp n g0) := by
    refine ⟨e06, e18, by omega, fun pa hp => ?_⟩
    by_cases e : pa = n
    · subst e
      rw [z_pp_n]
      exact ⟨e690, hg9⟩
    · rw [z_pp_o gp e, hch 69 _ (by omega)]
      exact ⟨(h4.2.2.2 pa (by omega)).1, gis_of_sg (h4.2.2.2 pa (by omega)).2 ⟨funext fun j => hch _ _ (by omega), funext fun j => hch _ _ (by omega)⟩⟩
  refine ⟨zR1_fr h1 (by omega) (fun j hj => hch _ _ (by omega)) (fun p c hp hc => hch _ _ (by omega)), zR2_fr h2 (by omega) (show n ≤ 12 by omega) h7 (fun c hc => hch _ _ (by omega)) (fun c hc => hch _ _ (by omega)) (fun c hc => hch _ _ (by omega)) (fun c hc => hch _ _ (by omega)) (fun p c hp hc => hch _ _ (by omega)) (fun b hb => hch _ _ (by omega)) (fun pa hp => ⟨funext fun j => hch _ _ (by omega), funext fun j => hch _ _ (by omega)⟩), zR3_fr h3 (hch _ _ (by omega)) ⟨funext fun j => hch _ _ (by omega), funext fun j => hch _ _ (by omega)⟩, ?_, ?_, zR6_fr h6 (hch _ _ (by omega)) (hch _ _ (by omega)) (fun t ht => hch _ _ (by omega)) (fun t ht => hch _ _ (by omega)) (fun t ht => hch _ _ (by omega)) (fun t ht => ⟨funext fun j => hch _ _ (by omega), funext fun j => hch _ _ (by omega)⟩), ?_, zR8_fr h8 (fun p hp => hch _ _ (by omega)) (fun p hp => hch _ _ (by omega)), zR9_fr h9 (fun j hj => hch _ _ (by omega)) (fun p hp => hch _ _ (by omega)) (fun p hp => hch _ _ (by omega)), h10⟩
  · skip
    exact r4
  · skip
    intro pa hp
    by_cases e : pa = n
    · subst e
      rw [e691, e692, e5]
      refine ⟨rfl, ⟨wh, by omega, rfl⟩, o, ?_, rfl⟩
      have ea : ∀ o1 k, o1 < pa → k < 8 → (q_calk U pa o1 k ↔ gimg k g0 = gp o1) := fun o1 k h1 hk => by
        have := zc_alk r4 (Nat.lt_succ_self pa) (show o1 < pa + 1 by omega) hk
        rw [z_pp_n, z_pp_o gp (by omega)] at this
        exact this
      obtain ⟨a1, a2⟩ := ho
      refine ⟨by rcases a1 with q | q <;> omega, fun hlt => ?_, fun o1 ho1 hk => ?_⟩
      · have hit := (a1.resolve_left (by omega)).2.2
        obtain ⟨k, hk, e⟩ := gimg_all.mpr hit
        exact ⟨k, hk, (ea o k hlt hk).mpr e⟩
      · have hlt : o1 < pa := by rcases a1 with q | q <;> omega
        obtain ⟨k, hk, e⟩ := hk
        exact a2 o1 (Nat.zero_le _) ho1 hlt (gimg_all.mp ⟨k, hk, (ea o1 k hlt hk).mp e⟩)
    · have r5 : zR5 U n := zR5_fr h5 (fun pa hp => hch _ _ (by omega)) (fun pa hp => hch _ _ (by omega)) (fun pa hp => hch _ _ (by omega)) (fun pa hp => ⟨funext fun j => hch _ _ (by omega), funext fun j => hch _ _ (by omega)⟩)
      exact r5 pa (by omega)
  · skip
    exact zR7_mono (zR7_fr h7 (fun j hj => hch _ _ (by omega)) (fun b hb => hch _ _ (by omega)) (fun b hb => hch _ _ (by omega))) (Nat.le_succ n)
set_option maxHeartbeats 2000000 in
/-- a sign is told -/
theorem z_sign {V : q_V} {G : q_G} {B n ns g0 : Nat} {gp gs : Nat → Nat} (h : zRel V G B n ns g0 gp gs) (hns : ns < 4) {wt : Nat} (hwt : wt ≤ 100) : zRel (q_up (q_up (q_cpy (q_up (q_up (q_up (q_up (q_up (V) (70) (2 * ns) (nI g0)) (70) (2 * ns + 1) (nI wt)) (18) (2) (nI (ns + 1))) (27 + (13 + ns)) (1) (nI (gwd g0))) (27 + (13 + ns)) (2) (nI (ghi g0))) (48 + 0) (48 + (13 + ns)) 48) (11) (ns) (nI wt)) (0) (13) (nI (ns + 1))) (G) (B + 30) n (ns + 1) g0 gp (z_pp gs ns g0) := by
  obtain ⟨h1, h2, h3, h4, h5, h6, h7, h8, h9, h10⟩ := h
  have hn6 := h4.2.2.1
  have hns4 := h6.2.2.1
  generalize hU : q_up (q_up (q_cpy (q_up (q_up (q_up (q_up (q_up (V) (70) (2 * ns) (nI g0)) (70) (2 * ns + 1) (nI wt)) (18) (2) (nI (ns + 1))) (27 + (13 + ns)) (1) (nI (gwd g0))) (27 + (13 + ns)) (2) (nI (ghi g0))) (48 + 0) (48 + (13 + ns)) 48) (11) (ns) (nI wt)) (0) (13) (nI (ns + 1)) = U
  have hch : ∀ a j, ¬ ((a = 70 ∧ j = 2 * ns) ∨ (a = 70 ∧ j = 2 * ns + 1) ∨ (a = 18 ∧ j = 2) ∨ (a = 27 + (13 + ns) ∧ j = 1) ∨ (a = 27 + (13 + ns) ∧ j = 2) ∨ (a = 48 + (13 + ns) ∧ j < 48) ∨ (a = 11 ∧ j = ns) ∨ (a = 0 ∧ j = 13)) → U a j = V a j := by
    intro a j hn9
    rw [← hU]
    exact ((q_up_ne _ _ (by omega)).trans ((q_up_ne _ _ (by omega)).trans ((if_neg (by omega)).trans ((q_up_ne _ _ (by omega)).trans ((q_up_ne _ _ (by omega)).trans ((q_up_ne _ _ (by omega)).trans ((q_up_ne _ _ (by omega)).trans (q_up_ne _ _ (by omega)))))))))
  have e013 : U (0) (13) = nI (ns + 1) := by
    rw [← hU]
    exact (q_up_self _ _ _ _)
  have e11 : U (11) (ns) = nI wt := by
    rw [← hU]
    exact ((q_up_ne _ _ (by omega)).trans (q_up_self _ _ _ _))
  have e700 : U (70) (2 * ns) = nI g0 := by
    rw [← hU]
    exact ((q_up_ne _ _ (by omega)).trans ((q_up_ne _ _ (by omega)).trans ((if_neg (by omega)).trans ((q_up_ne _ _ (by omega)).trans ((q_up_ne _ _ (by omega)).trans ((q_up_ne _ _ (by omega)).trans ((q_up_ne _ _ (by omega)).trans (q_up_self _ _ _ _))))))))
  have e701 : U (70) (2 * ns + 1) = nI wt := by
    rw [← hU]
    exact ((q_up_ne _ _ (by omega)).trans ((q_up_ne _ _ (by omega)).trans ((if_neg (by omega)).trans ((q_up_ne _ _ (by omega)).trans ((q_up_ne _ _ (by omega)).trans ((q_up_ne _ _ (by omega)).trans (q_up_self _ _ _ _)))))))
  have e18 : U (18) (2) = nI (ns + 1) := by
    rw [← hU]
    exact ((q_up_ne _ _ (by omega)).trans ((q_up_ne _ _ (by omega)).trans ((if_neg (by omega)).trans ((q_up_ne _ _ (by omega)).trans ((q_up_ne _ _ (by omega)).trans (q_up_self _ _ _ _))))))
  have e1 : U (27 + (13 + ns)) (1) = nI (gwd g0) := by
    rw [← hU]
    exact ((q_up_ne _ _ (by omega)).trans ((q_up_ne _ _ (by omega)).trans ((if_neg (by omega)).trans ((q_up_ne _ _ (by omega)).trans (q_up_self _ _ _ _)))))
  have e2 : U (27 + (13 + ns)) (2) = nI (ghi g0) := by
    rw [← hU]
    exact ((q_up_ne _ _ (by omega)).trans ((q_up_ne _ _ (by omega)).trans ((if_neg (by omega)).trans (q_up_self _ _ _ _))))
  have ecp : ∀ j, j < 48 → U (48 + (13 + ns)) j = V (48 + 0) j := by
    intro j hj
    rw [← hU]
    exact (q_up_ne _ _ (by omega)).trans ((q_up_ne _ _ (by omega)).trans ((if_pos ⟨rfl, hj⟩).trans ((q_up_ne _ _ (by omega)).trans ((q_up_ne _ _ (by omega)).trans ((q_up_ne _ _ (by omega)).trans ((q_up_ne _ _ (by omega)).trans (q_up_ne _ _ (by omega))))))))
  have hg9 : gis U (13 + ns) g0 := by
    obtain ⟨q1, q2, q3⟩ := h3.2
    refine ⟨q1, ⟨e1, e2, q2.2.2⟩, fun u v hu hv => ?_⟩
    have hlt : v * gwd g0 + u < 48 := by
      have := q_ix hv hu
      have := q_gwh q2
      omega
    rw [ecp _ hlt]
    exact q3 u v hu hv
  refine ⟨zR1_fr h1 (by omega) (fun j hj => hch _ _ (by omega)) (fun p c hp hc => hch _ _ (by omega)), zR2_fr h2 (by omega) (show n ≤ 12 by omega) h7 (fun c hc => hch _ _ (by omega)) (fun c hc => hch _ _ (by omega)) (fun c hc => hch _ _ (by omega)) (fun c hc => hch _ _ (by omega)) (fun p c hp hc => hch _ _ (by omega)) (fun b hb => hch _ _ (by omega)) (fun pa hp => ⟨funext fun j => hch _ _ (by omega), funext fun j => hch _ _ (by omega)⟩), zR3_fr h3 (hch _ _ (by omega)) ⟨funext fun j => hch _ _ (by omega), funext fun j => hch _ _ (by omega)⟩, zR4_fr h4 (hch _ _ (by omega)) (hch _ _ (by omega)) (fun pa hp => hch _ _ (by omega)) (fun pa hp => ⟨funext fun j => hch _ _ (by omega), funext fun j => hch _ _ (by omega)⟩), zR5_fr h5 (fun pa hp => hch _ _ (by omega)) (fun pa hp => hch _ _ (by omega)) (fun pa hp => hch _ _ (by omega)) (fun pa hp => ⟨funext fun j => hch _ _ (by omega), funext fun j => hch _ _ (by omega)⟩), ?_, zR7_fr h7 (fun j hj => hch _ _ (by omega)) (fun b hb => hch _ _ (by omega)) (fun b hb => hch _ _ (by omega)), zR8_fr h8 (fun p hp => hch _ _ (by omega)) (fun p hp => hch _ _ (by omega)), zR9_fr h9 (fun j hj => hch _ _ (by omega)) (fun p hp => hch _ _ (by omega)) (fun p hp => hch _ _ (by omega)), h10⟩
  · skip
    refine ⟨e013, e18, by omega, fun t ht => ?_⟩
    by_cases e : t = ns
    · subst e
      rw [z_pp_n, e701, e11]
      exact ⟨e700, hg9, rfl, wt, hwt, rfl⟩
    · rw [z_pp_o gs e, hch 70 (2 * t) (by omega), hch 70 (2 * t + 1) (by omega), hch 11 t (by omega)]
      obtain ⟨a1, a2, a3⟩ := h6.2.2.2 t (by omega)
      exact ⟨a1, gis_of_sg a2 ⟨funext fun j => hch _ _ (by omega), funext fun j => hch _ _ (by omega)⟩, a3⟩
set_option maxHeartbeats 2000000 in
/-- a wish -/
theorem z_wish {V : q_V} {G : q_G} {B n ns g0 : Nat} {gp gs : Nat → Nat} (h : zRel V G B n ns g0 gp gs) {wh y z : Nat} (hw : wh < 5) (hy : y < 8) (hz : z < 8) : zRel (q_up (q_up (q_up (q_up (V) (73) (2 * wh) (nI y)) (73) (2 * wh + 1) (nI z)) (13) (wh) (nI y)) (14) (wh) (nI z)) (G) (B + 30) n ns g0 gp gs := by
  obtain ⟨h1, h2, h3, h4, h5, h6, h7, h8, h9, h10⟩ := h
  have hn6 := h4.2.2.1
  have hns4 := h6.2.2.1
  generalize hU : q_up (q_up (q_up (q_up (V) (73) (2 * wh) (nI y)) (73) (2 * wh + 1) (nI z)) (13) (wh) (nI y)) (14) (wh) (nI z) = U
  have hch : ∀ a j, ¬ ((a = 73 ∧ j = 2 * wh) ∨ (a = 73 ∧ j = 2 * wh + 1) ∨ (a = 13 ∧ j = wh) ∨ (a = 14 ∧ j = wh)) → U a j = V a j := by
    intro a j hn9
    rw [← hU]
    exact ((q_up_ne _ _ (by omega)).trans ((q_up_ne _ _ (by omega)).trans ((q_up_ne _ _ (by omega)).trans (q_up_ne _ _ (by omega)))))
  have e730 : U (73) (2 * wh) = nI y := by
    rw [← hU]
    exact ((q_up_ne _ _ (by omega)).trans ((q_up_ne _ _ (by omega)).trans ((q_up_ne _ _ (by omega)).trans (q_up_self _ _ _ _))))
  have e731 : U (73) (2 * wh + 1) = nI z := by
    rw [← hU]
    exact ((q_up_ne _ _ (by omega)).trans ((q_up_ne _ _ (by omega)).trans (q_up_self _ _ _ _)))
  have e13 : U (13) (wh) = nI y := by
    rw [← hU]
    exact ((q_up_ne _ _ (by omega)).trans (q_up_self _ _ _ _))
  have e14 : U (14) (wh) = nI z := by
    rw [← hU]
    exact (q_up_self _ _ _ _)
  refine ⟨zR1_fr h1 (by omega) (fun j hj => hch _ _ (by omega)) (fun p c hp hc => hch _ _ (by omega)), zR2_fr h2 (by omega) (show n ≤ 12 by omega) h7 (fun c hc => hch _ _ (by omega)) (fun c hc => hch _ _ (by omega)) (fun c hc => hch _ _ (by omega)) (fun c hc => hch _ _ (by omega)) (fun p c hp hc => hch _ _ (by omega)) (fun b hb => hch _ _ (by omega)) (fun pa hp => ⟨funext fun j => hch _ _ (by omega), funext fun j => hch _ _ (by omega)⟩), zR3_fr h3 (hch _ _ (by omega)) ⟨funext fun j => hch _ _ (by omega), funext fun j => hch _ _ (by omega)⟩, zR4_fr h4 (hch _ _ (by omega)) (hch _ _ (by omega)) (fun pa hp => hch _ _ (by omega)) (fun pa hp => ⟨funext fun j => hch _ _ (by omega), funext fun j => hch _ _ (by omega)⟩), zR5_fr h5 (fun pa hp => hch _ _ (by omega)) (fun pa hp => hch _ _ (by omega)) (fun pa hp => hch _ _ (by omega)) (fun pa hp => ⟨funext fun j => hch _ _ (by omega), funext fun j => hch _ _ (by omega)⟩), zR6_fr h6 (hch _ _ (by omega)) (hch _ _ (by omega)) (fun t ht => hch _ _ (by omega)) (fun t ht => hch _ _ (by omega)) (fun t ht => hch _ _ (by omega)) (fun t ht => ⟨funext fun j => hch _ _ (by omega), funext fun j => hch _ _ (by omega)⟩), zR7_fr h7 (fun j hj => hch _ _ (by omega)) (fun b hb => hch _ _ (by omega)) (fun b hb => hch _ _ (by omega)), zR8_fr h8 (fun p hp => hch _ _ (by omega)) (fun p hp => hch _ _ (by omega)), ?_, h10⟩
  · skip
    intro p hp
    by_cases e : p = wh
    · subst e
      rw [e730, e731, e13, e14]
      exact ⟨rfl, Or.inr ⟨hw, rfl, ⟨y, hy, rfl⟩, ⟨z, hz, rfl⟩⟩⟩
    · rw [hch 73 (2 * p) (by omega), hch 73 (2 * p + 1) (by omega), hch 13 p (by omega), hch 14 p (by omega)]
      exact h9 p hp
set_option maxHeartbeats 2000000 in
/-- a wish is taken back -/
theorem z_unwish {V : q_V} {G : q_G} {B n ns g0 : Nat} {gp gs : Nat → Nat} (h : zRel V G B n ns g0 gp gs) {wh : Nat} (hw : wh < 5) : zRel (q_up (q_up (q_up (V) (73) (2 * wh) (-1)) (13) (wh) (-1)) (14) (wh) (-1)) (G) (B + 30) n ns g0 gp gs := by
  obtain ⟨h1, h2, h3, h4, h5, h6, h7, h8, h9, h10⟩ := h
  have hn6 := h4.2.2.1
  have hns4 := h6.2.2.1
  generalize hU : q_up (q_up (q_up (V) (73) (2 * wh) (-1)) (13) (wh) (-1)) (14) (wh) (-1) = U
  have hch : ∀ a j, ¬ ((a = 73 ∧ j = 2 * wh) ∨ (a = 13 ∧ j = wh) ∨ (a = 14 ∧ j = wh)) → U a j = V a j := by
    intro a j hn9
    rw [← hU]
    exact ((q_up_ne _ _ (by omega)).trans ((q_up_ne _ _ (by omega)).trans (q_up_ne _ _ (by omega))))
  have e730 : U (73) (2 * wh) = -1 := by
    rw [← hU]
    exact ((q_up_ne _ _ (by omega)).trans ((q_up_ne _ _ (by omega)).trans (q_up_self _ _ _ _)))
  have e13 : U (13) (wh) = -1 := by
    rw [← hU]
    exact ((q_up_ne _ _ (by omega)).trans (q_up_self _ _ _ _))
  refine ⟨zR1_fr h1 (by omega) (fun j hj => hch _ _ (by omega)) (fun p c hp hc => hch _ _ (by omega)), zR2_fr h2 (by omega) (show n ≤ 12 by omega) h7 (fun c hc => hch _ _ (by omega)) (fun c hc => hch _ _ (by omega)) (fun c hc => hch _ _ (by omega)) (fun c hc => hch _ _ (by omega)) (fun p c hp hc => hch _ _ (by omega)) (fun b hb => hch _ _ (by omega)) (fun pa hp => ⟨funext fun j => hch _ _ (by omega), funext fun j => hch _ _ (by omega)⟩), zR3_fr h3 (hch _ _ (by omega)) ⟨funext fun j => hch _ _ (by omega), funext fun j => hch _ _ (by omega)⟩, zR4_fr h4 (hch _ _ (by omega)) (hch _ _ (by omega)) (fun pa hp => hch _ _ (by omega)) (fun pa hp => ⟨funext fun j => hch _ _ (by omega), funext fun j => hch _ _ (by omega)⟩), zR5_fr h5 (fun pa hp => hch _ _ (by omega)) (fun pa hp => hch _ _ (by omega)) (fun pa hp => hch _ _ (by omega)) (fun pa hp => ⟨funext fun j => hch _ _ (by omega), funext fun j => hch _ _ (by omega)⟩), zR6_fr h6 (hch _ _ (by omega)) (hch _ _ (by omega)) (fun t ht => hch _ _ (by omega)) (fun t ht => hch _ _ (by omega)) (fun t ht => hch _ _ (by omega)) (fun t ht => ⟨funext fun j => hch _ _ (by omega), funext fun j => hch _ _ (by omega)⟩), zR7_fr h7 (fun j hj => hch _ _ (by omega)) (fun b hb => hch _ _ (by omega)) (fun b hb => hch _ _ (by omega)), zR8_fr h8 (fun p hp => hch _ _ (by omega)) (fun p hp => hch _ _ (by omega)), ?_, h10⟩
  · skip
    intro p hp
    by_cases e : p = wh
    · subst e
      rw [e730, e13]
      exact ⟨rfl, Or.inl rfl⟩
    · rw [hch 73 (2 * p) (by omega), hch 73 (2 * p + 1) (by omega), hch 13 p (by omega), hch 14 p (by omega)]
      exact h9 p hp
set_option maxHeartbeats 2000000 in
/-- a belt is given -/
theorem z_give {V : q_V} {G : q_G} {B n ns g0 : Nat} {gp gs : Nat → Nat} (h : zRel V G B n ns g0 gp gs) {K : q_G} (hK : zR10 K) {k wh : Nat} (hk : k < 6) (hw : wh < 5) : zRel (q_up (q_up (V) (71) (2 * k + 1) (nI wh)) (7) (k) (nI wh)) (K) (B + 30) n ns g0 gp gs := by
  obtain ⟨h1, h2, h3, h4, h5, h6, h7, h8, h9, h10⟩ := h
  have hn6 := h4.2.2.1
  have hns4 := h6.2.2.1
  generalize hU : q_up (q_up (V) (71) (2 * k + 1) (nI wh)) (7) (k) (nI wh) = U
  have hch : ∀ a j, ¬ ((a = 71 ∧ j = 2 * k + 1) ∨ (a = 7 ∧ j = k)) → U a j = V a j := by
    intro a j hn9
    rw [← hU]
    exact ((q_up_ne _ _ (by omega)).trans (q_up_ne _ _ (by omega)))
  have e71 : U (71) (2 * k + 1) = nI wh := by
    rw [← hU]
    exact ((q_up_ne _ _ (by omega)).trans (q_up_self _ _ _ _))
  have e7 : U (7) (k) = nI wh := by
    rw [← hU]
    exact (q_up_self _ _ _ _)
  refine ⟨zR1_fr h1 (by omega) (fun j hj => hch _ _ (by omega)) (fun p c hp hc => hch _ _ (by omega)), zR2_fr h2 (by omega) (show n ≤ 12 by omega) h7 (fun c hc => hch _ _ (by omega)) (fun c hc => hch _ _ (by omega)) (fun c hc => hch _ _ (by omega)) (fun c hc => hch _ _ (by omega)) (fun p c hp hc => hch _ _ (by omega)) (fun b hb => hch _ _ (by omega)) (fun pa hp => ⟨funext fun j => hch _ _ (by omega), funext fun j => hch _ _ (by omega)⟩), zR3_fr h3 (hch _ _ (by omega)) ⟨funext fun j => hch _ _ (by omega), funext fun j => hch _ _ (by omega)⟩, zR4_fr h4 (hch _ _ (by omega)) (hch _ _ (by omega)) (fun pa hp => hch _ _ (by omega)) (fun pa hp => ⟨funext fun j => hch _ _ (by omega), funext fun j => hch _ _ (by omega)⟩), zR5_fr h5 (fun pa hp => hch _ _ (by omega)) (fun pa hp => hch _ _ (by omega)) (fun pa hp => hch _ _ (by omega)) (fun pa hp => ⟨funext fun j => hch _ _ (by omega), funext fun j => hch _ _ (by omega)⟩), zR6_fr h6 (hch _ _ (by omega)) (hch _ _ (by omega)) (fun t ht => hch _ _ (by omega)) (fun t ht => hch _ _ (by omega)) (fun t ht => hch _ _ (by omega)) (fun t ht => ⟨funext fun j => hch _ _ (by omega), funext fun j => hch _ _ (by omega)⟩), ?_, zR8_fr h8 (fun p hp => hch _ _ (by omega)) (fun p hp => hch _ _ (by omega)), zR9_fr h9 (fun j hj => hch _ _ (by omega)) (fun p hp => hch _ _ (by omega)) (fun p hp => hch _ _ (by omega)), ?_⟩
  · skip
    refine ⟨fun b hb => ?_, fun b hb hb2 => ?_, fun b hb => ?_⟩
    · by_cases e : b = k
      · subst e
        rw [hch 71 (2 * b) (by omega), e71, hch 6 b (by omega), e7]
        exact ⟨(h7.1 b hb).1, rfl, (h7.1 b hb).2.2⟩
      · rw [hch 71 (2 * b) (by omega), hch 71 (2 * b + 1) (by omega), hch 6 b (by omega), hch 7 b (by omega)]
        exact h7.1 b hb
    · rw [hch 6 b (by omega)]
      exact h7.2.1 b hb hb2
    · by_cases e : b = k
      · subst e
        exact ⟨wh, by omega, e7⟩
      · rw [hch 7 b (by omega)]
        exact h7.2.2 b hb
  · skip
    exact hK
